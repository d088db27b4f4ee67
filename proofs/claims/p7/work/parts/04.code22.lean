theorem d_7_23_2 : decode prog_7_method_23_code 2 = .ok (.invokevirtual 48, 3) := by decide +kernel
theorem d_7_23_5 : decode prog_7_method_23_code 5 = .ok (.istore_n 2, 1) := by decide +kernel
theorem d_7_23_6 : decode prog_7_method_23_code 6 = .ok (.iload_n 2, 1) := by decide +kernel
theorem d_7_23_7 : decode prog_7_method_23_code 7 = .ok (.iconst 5, 1) := by decide +kernel
theorem d_7_23_8 : decode prog_7_method_23_code 8 = .ok (.if_icmp .eq 9, 3) := by decide +kernel
theorem d_7_23_11 : decode prog_7_method_23_code 11 = .ok (.iload_n 2, 1) := by decide +kernel
theorem d_7_23_12 : decode prog_7_method_23_code 12 = .ok (.bipush 8, 2) := by decide +kernel
theorem d_7_23_14 : decode prog_7_method_23_code 14 = .ok (.if_icmp .ne 7, 3) := by decide +kernel
theorem d_7_23_17 : decode prog_7_method_23_code 17 = .ok (.iconst 1, 1) := by decide +kernel
theorem d_7_23_18 : decode prog_7_method_23_code 18 = .ok (.goto 4, 3) := by decide +kernel
theorem d_7_23_21 : decode prog_7_method_23_code 21 = .ok (.iconst 0, 1) := by decide +kernel
theorem d_7_23_22 : decode prog_7_method_23_code 22 = .ok (.ireturn, 1) := by decide +kernel
theorem d_7_24_0 : decode prog_7_method_24_code 0 = .ok (.aload_n 0, 1) := by decide +kernel
theorem d_7_24_1 : decode prog_7_method_24_code 1 = .ok (.iload_n 1, 1) := by decide +kernel
theorem d_7_24_2 : decode prog_7_method_24_code 2 = .ok (.invokevirtual 48, 3) := by decide +kernel
theorem d_7_24_5 : decode prog_7_method_24_code 5 = .ok (.istore_n 2, 1) := by decide +kernel
theorem d_7_24_6 : decode prog_7_method_24_code 6 = .ok (.iload_n 2, 1) := by decide +kernel
theorem d_7_24_7 : decode prog_7_method_24_code 7 = .ok (.iconst 1, 1) := by decide +kernel
theorem d_7_24_8 : decode prog_7_method_24_code 8 = .ok (.if_icmp .eq 9, 3) := by decide +kernel
theorem d_7_24_11 : decode prog_7_method_24_code 11 = .ok (.iload_n 2, 1) := by decide +kernel
theorem d_7_24_12 : decode prog_7_method_24_code 12 = .ok (.bipush 6, 2) := by decide +kernel
theorem d_7_24_14 : decode prog_7_method_24_code 14 = .ok (.if_icmp .ne 7, 3) := by decide +kernel
theorem d_7_24_17 : decode prog_7_method_24_code 17 = .ok (.iconst 1, 1) := by decide +kernel
theorem d_7_24_18 : decode prog_7_method_24_code 18 = .ok (.goto 4, 3) := by decide +kernel
theorem d_7_24_21 : decode prog_7_method_24_code 21 = .ok (.iconst 0, 1) := by decide +kernel
theorem d_7_24_22 : decode prog_7_method_24_code 22 = .ok (.ireturn, 1) := by decide +kernel
theorem d_7_2_0 : decode prog_7_method_2_code 0 = .ok (.aload_n 0, 1) := by decide +kernel
theorem d_7_2_1 : decode prog_7_method_2_code 1 = .ok (.iconst 0, 1) := by decide +kernel
theorem d_7_2_2 : decode prog_7_method_2_code 2 = .ok (.putfield 44, 3) := by decide +kernel
theorem d_7_2_5 : decode prog_7_method_2_code 5 = .ok (.return_, 1) := by decide +kernel
theorem d_7_3_0 : decode prog_7_method_3_code 0 = .ok (.aload_n 0, 1) := by decide +kernel
theorem d_7_3_1 : decode prog_7_method_3_code 1 = .ok (.getfield 44, 3) := by decide +kernel
theorem d_7_3_4 : decode prog_7_method_3_code 4 = .ok (.ireturn, 1) := by decide +kernel
theorem d_7_4_0 : decode prog_7_method_4_code 0 = .ok (.aload_n 0, 1) := by decide +kernel
theorem d_7_4_1 : decode prog_7_method_4_code 1 = .ok (.getfield 44, 3) := by decide +kernel
theorem d_7_4_4 : decode prog_7_method_4_code 4 = .ok (.sipush 1501, 3) := by decide +kernel
theorem d_7_4_7 : decode prog_7_method_4_code 7 = .ok (.if_icmp .lt 5, 3) := by decide +kernel
theorem d_7_4_10 : decode prog_7_method_4_code 10 = .ok (.iconst (-1), 1) := by decide +kernel
theorem d_7_4_11 : decode prog_7_method_4_code 11 = .ok (.ireturn, 1) := by decide +kernel
theorem d_7_4_12 : decode prog_7_method_4_code 12 = .ok (.aload_n 0, 1) := by decide +kernel
theorem d_7_4_13 : decode prog_7_method_4_code 13 = .ok (.getfield 44, 3) := by decide +kernel
theorem d_7_4_16 : decode prog_7_method_4_code 16 = .ok (.istore 7, 2) := by decide +kernel
theorem d_7_4_18 : decode prog_7_method_4_code 18 = .ok (.aload_n 0, 1) := by decide +kernel
theorem d_7_4_19 : decode prog_7_method_4_code 19 = .ok (.dup, 1) := by decide +kernel
theorem d_7_4_20 : decode prog_7_method_4_code 20 = .ok (.getfield 44, 3) := by decide +kernel
theorem d_7_4_23 : decode prog_7_method_4_code 23 = .ok (.iconst 1, 1) := by decide +kernel
theorem d_7_4_24 : decode prog_7_method_4_code 24 = .ok (.iadd, 1) := by decide +kernel
theorem d_7_4_25 : decode prog_7_method_4_code 25 = .ok (.putfield 44, 3) := by decide +kernel
theorem d_7_4_28 : decode prog_7_method_4_code 28 = .ok (.aload_n 0, 1) := by decide +kernel
theorem d_7_4_29 : decode prog_7_method_4_code 29 = .ok (.getfield 9, 3) := by decide +kernel
theorem d_7_4_32 : decode prog_7_method_4_code 32 = .ok (.iload 7, 2) := by decide +kernel
theorem d_7_4_34 : decode prog_7_method_4_code 34 = .ok (.lload_n 1, 1) := by decide +kernel
theorem d_7_4_35 : decode prog_7_method_4_code 35 = .ok (.lastore, 1) := by decide +kernel
theorem d_7_4_36 : decode prog_7_method_4_code 36 = .ok (.aload_n 0, 1) := by decide +kernel
theorem d_7_4_37 : decode prog_7_method_4_code 37 = .ok (.getfield 15, 3) := by decide +kernel
theorem d_7_4_40 : decode prog_7_method_4_code 40 = .ok (.iload 7, 2) := by decide +kernel
theorem d_7_4_42 : decode prog_7_method_4_code 42 = .ok (.iload 5, 2) := by decide +kernel
theorem d_7_4_44 : decode prog_7_method_4_code 44 = .ok (.iastore, 1) := by decide +kernel
theorem d_7_4_45 : decode prog_7_method_4_code 45 = .ok (.aload_n 0, 1) := by decide +kernel
theorem d_7_4_46 : decode prog_7_method_4_code 46 = .ok (.getfield 19, 3) := by decide +kernel
theorem d_7_4_49 : decode prog_7_method_4_code 49 = .ok (.iload 7, 2) := by decide +kernel
theorem d_7_4_51 : decode prog_7_method_4_code 51 = .ok (.iload 6, 2) := by decide +kernel
theorem d_7_4_53 : decode prog_7_method_4_code 53 = .ok (.iastore, 1) := by decide +kernel
theorem d_7_4_54 : decode prog_7_method_4_code 54 = .ok (.aload_n 0, 1) := by decide +kernel
theorem d_7_4_55 : decode prog_7_method_4_code 55 = .ok (.getfield 22, 3) := by decide +kernel
theorem d_7_4_58 : decode prog_7_method_4_code 58 = .ok (.iload 7, 2) := by decide +kernel
theorem d_7_4_60 : decode prog_7_method_4_code 60 = .ok (.iconst 0, 1) := by decide +kernel
theorem d_7_4_61 : decode prog_7_method_4_code 61 = .ok (.iastore, 1) := by decide +kernel
theorem d_7_4_62 : decode prog_7_method_4_code 62 = .ok (.aload_n 0, 1) := by decide +kernel
theorem d_7_4_63 : decode prog_7_method_4_code 63 = .ok (.getfield 25, 3) := by decide +kernel
theorem d_7_4_66 : decode prog_7_method_4_code 66 = .ok (.iload 7, 2) := by decide +kernel
theorem d_7_4_68 : decode prog_7_method_4_code 68 = .ok (.iload_n 3, 1) := by decide +kernel
theorem d_7_4_69 : decode prog_7_method_4_code 69 = .ok (.iastore, 1) := by decide +kernel
theorem d_7_4_70 : decode prog_7_method_4_code 70 = .ok (.aload_n 0, 1) := by decide +kernel
theorem d_7_4_71 : decode prog_7_method_4_code 71 = .ok (.getfield 28, 3) := by decide +kernel
theorem d_7_4_74 : decode prog_7_method_4_code 74 = .ok (.iload 7, 2) := by decide +kernel
theorem d_7_4_76 : decode prog_7_method_4_code 76 = .ok (.iload 4, 2) := by decide +kernel
theorem d_7_4_78 : decode prog_7_method_4_code 78 = .ok (.iastore, 1) := by decide +kernel
theorem d_7_4_79 : decode prog_7_method_4_code 79 = .ok (.aload_n 0, 1) := by decide +kernel
theorem d_7_4_80 : decode prog_7_method_4_code 80 = .ok (.getfield 31, 3) := by decide +kernel
theorem d_7_4_83 : decode prog_7_method_4_code 83 = .ok (.iload 7, 2) := by decide +kernel
theorem d_7_4_85 : decode prog_7_method_4_code 85 = .ok (.iconst (-1), 1) := by decide +kernel
theorem d_7_4_86 : decode prog_7_method_4_code 86 = .ok (.iastore, 1) := by decide +kernel
theorem d_7_4_87 : decode prog_7_method_4_code 87 = .ok (.aload_n 0, 1) := by decide +kernel
theorem d_7_4_88 : decode prog_7_method_4_code 88 = .ok (.getfield 34, 3) := by decide +kernel
theorem d_7_4_91 : decode prog_7_method_4_code 91 = .ok (.iload 7, 2) := by decide +kernel
theorem d_7_4_93 : decode prog_7_method_4_code 93 = .ok (.iconst (-1), 1) := by decide +kernel
theorem d_7_4_94 : decode prog_7_method_4_code 94 = .ok (.iastore, 1) := by decide +kernel
theorem d_7_4_95 : decode prog_7_method_4_code 95 = .ok (.aload_n 0, 1) := by decide +kernel
theorem d_7_4_96 : decode prog_7_method_4_code 96 = .ok (.getfield 37, 3) := by decide +kernel
theorem d_7_4_99 : decode prog_7_method_4_code 99 = .ok (.iload 7, 2) := by decide +kernel
theorem d_7_4_101 : decode prog_7_method_4_code 101 = .ok (.iconst (-1), 1) := by decide +kernel
theorem d_7_4_102 : decode prog_7_method_4_code 102 = .ok (.iastore, 1) := by decide +kernel
theorem d_7_4_103 : decode prog_7_method_4_code 103 = .ok (.aload_n 0, 1) := by decide +kernel
theorem d_7_4_104 : decode prog_7_method_4_code 104 = .ok (.getfield 40, 3) := by decide +kernel
theorem d_7_4_107 : decode prog_7_method_4_code 107 = .ok (.iload 7, 2) := by decide +kernel
theorem d_7_4_109 : decode prog_7_method_4_code 109 = .ok (.iconst 0, 1) := by decide +kernel
theorem d_7_4_110 : decode prog_7_method_4_code 110 = .ok (.bastore, 1) := by decide +kernel
theorem d_7_4_111 : decode prog_7_method_4_code 111 = .ok (.iload 7, 2) := by decide +kernel
theorem d_7_4_113 : decode prog_7_method_4_code 113 = .ok (.ireturn, 1) := by decide +kernel
theorem d_7_5_0 : decode prog_7_method_5_code 0 = .ok (.iload_n 1, 1) := by decide +kernel
theorem d_7_5_1 : decode prog_7_method_5_code 1 = .ok (.ifCond .lt 18, 3) := by decide +kernel
theorem d_7_5_4 : decode prog_7_method_5_code 4 = .ok (.iload_n 1, 1) := by decide +kernel
theorem d_7_5_5 : decode prog_7_method_5_code 5 = .ok (.aload_n 0, 1) := by decide +kernel
theorem d_7_5_6 : decode prog_7_method_5_code 6 = .ok (.getfield 44, 3) := by decide +kernel
theorem d_7_5_9 : decode prog_7_method_5_code 9 = .ok (.if_icmp .ge 10, 3) := by decide +kernel
theorem d_7_5_12 : decode prog_7_method_5_code 12 = .ok (.aload_n 0, 1) := by decide +kernel
theorem d_7_5_13 : decode prog_7_method_5_code 13 = .ok (.getfield 31, 3) := by decide +kernel
theorem d_7_5_16 : decode prog_7_method_5_code 16 = .ok (.iload_n 1, 1) := by decide +kernel
theorem d_7_5_17 : decode prog_7_method_5_code 17 = .ok (.iload_n 2, 1) := by decide +kernel
theorem d_7_5_18 : decode prog_7_method_5_code 18 = .ok (.iastore, 1) := by decide +kernel
theorem d_7_5_19 : decode prog_7_method_5_code 19 = .ok (.return_, 1) := by decide +kernel
theorem d_7_6_0 : decode prog_7_method_6_code 0 = .ok (.iload_n 1, 1) := by decide +kernel
theorem d_7_6_1 : decode prog_7_method_6_code 1 = .ok (.ifCond .lt 18, 3) := by decide +kernel
theorem d_7_6_4 : decode prog_7_method_6_code 4 = .ok (.iload_n 1, 1) := by decide +kernel
theorem d_7_6_5 : decode prog_7_method_6_code 5 = .ok (.aload_n 0, 1) := by decide +kernel
theorem d_7_6_6 : decode prog_7_method_6_code 6 = .ok (.getfield 44, 3) := by decide +kernel
theorem d_7_6_9 : decode prog_7_method_6_code 9 = .ok (.if_icmp .ge 10, 3) := by decide +kernel
theorem d_7_6_12 : decode prog_7_method_6_code 12 = .ok (.aload_n 0, 1) := by decide +kernel
theorem d_7_6_13 : decode prog_7_method_6_code 13 = .ok (.getfield 22, 3) := by decide +kernel
theorem d_7_6_16 : decode prog_7_method_6_code 16 = .ok (.iload_n 1, 1) := by decide +kernel
theorem d_7_6_17 : decode prog_7_method_6_code 17 = .ok (.iload_n 2, 1) := by decide +kernel
theorem d_7_6_18 : decode prog_7_method_6_code 18 = .ok (.iastore, 1) := by decide +kernel
theorem d_7_6_19 : decode prog_7_method_6_code 19 = .ok (.return_, 1) := by decide +kernel
theorem d_7_7_0 : decode prog_7_method_7_code 0 = .ok (.iload_n 1, 1) := by decide +kernel
theorem d_7_7_1 : decode prog_7_method_7_code 1 = .ok (.ifCond .lt 18, 3) := by decide +kernel
theorem d_7_7_4 : decode prog_7_method_7_code 4 = .ok (.iload_n 1, 1) := by decide +kernel
theorem d_7_7_5 : decode prog_7_method_7_code 5 = .ok (.aload_n 0, 1) := by decide +kernel
theorem d_7_7_6 : decode prog_7_method_7_code 6 = .ok (.getfield 44, 3) := by decide +kernel
theorem d_7_7_9 : decode prog_7_method_7_code 9 = .ok (.if_icmp .ge 10, 3) := by decide +kernel
theorem d_7_7_12 : decode prog_7_method_7_code 12 = .ok (.aload_n 0, 1) := by decide +kernel
theorem d_7_7_13 : decode prog_7_method_7_code 13 = .ok (.getfield 40, 3) := by decide +kernel
theorem d_7_7_16 : decode prog_7_method_7_code 16 = .ok (.iload_n 1, 1) := by decide +kernel
theorem d_7_7_17 : decode prog_7_method_7_code 17 = .ok (.iconst 1, 1) := by decide +kernel
theorem d_7_7_18 : decode prog_7_method_7_code 18 = .ok (.bastore, 1) := by decide +kernel
theorem d_7_7_19 : decode prog_7_method_7_code 19 = .ok (.return_, 1) := by decide +kernel
theorem d_7_8_0 : decode prog_7_method_8_code 0 = .ok (.iload_n 1, 1) := by decide +kernel
theorem d_7_8_1 : decode prog_7_method_8_code 1 = .ok (.ifCond .lt 18, 3) := by decide +kernel
theorem d_7_8_4 : decode prog_7_method_8_code 4 = .ok (.iload_n 1, 1) := by decide +kernel
theorem d_7_8_5 : decode prog_7_method_8_code 5 = .ok (.aload_n 0, 1) := by decide +kernel
theorem d_7_8_6 : decode prog_7_method_8_code 6 = .ok (.getfield 44, 3) := by decide +kernel
theorem d_7_8_9 : decode prog_7_method_8_code 9 = .ok (.if_icmp .ge 10, 3) := by decide +kernel
theorem d_7_8_12 : decode prog_7_method_8_code 12 = .ok (.aload_n 0, 1) := by decide +kernel
theorem d_7_8_13 : decode prog_7_method_8_code 13 = .ok (.getfield 34, 3) := by decide +kernel
theorem d_7_8_16 : decode prog_7_method_8_code 16 = .ok (.iload_n 1, 1) := by decide +kernel
theorem d_7_8_17 : decode prog_7_method_8_code 17 = .ok (.iload_n 2, 1) := by decide +kernel
theorem d_7_8_18 : decode prog_7_method_8_code 18 = .ok (.iastore, 1) := by decide +kernel
theorem d_7_8_19 : decode prog_7_method_8_code 19 = .ok (.return_, 1) := by decide +kernel
theorem d_7_9_0 : decode prog_7_method_9_code 0 = .ok (.iload_n 1, 1) := by decide +kernel
theorem d_7_9_1 : decode prog_7_method_9_code 1 = .ok (.ifCond .lt 18, 3) := by decide +kernel
theorem d_7_9_4 : decode prog_7_method_9_code 4 = .ok (.iload_n 1, 1) := by decide +kernel
theorem d_7_9_5 : decode prog_7_method_9_code 5 = .ok (.aload_n 0, 1) := by decide +kernel
theorem d_7_9_6 : decode prog_7_method_9_code 6 = .ok (.getfield 44, 3) := by decide +kernel
theorem d_7_9_9 : decode prog_7_method_9_code 9 = .ok (.if_icmp .ge 10, 3) := by decide +kernel
theorem d_7_9_12 : decode prog_7_method_9_code 12 = .ok (.aload_n 0, 1) := by decide +kernel
theorem d_7_9_13 : decode prog_7_method_9_code 13 = .ok (.getfield 37, 3) := by decide +kernel
theorem d_7_9_16 : decode prog_7_method_9_code 16 = .ok (.iload_n 1, 1) := by decide +kernel
theorem d_7_9_17 : decode prog_7_method_9_code 17 = .ok (.iload_n 2, 1) := by decide +kernel
theorem d_7_9_18 : decode prog_7_method_9_code 18 = .ok (.iastore, 1) := by decide +kernel
theorem d_7_9_19 : decode prog_7_method_9_code 19 = .ok (.return_, 1) := by decide +kernel
theorem d_8_10_0 : decode prog_8_method_10_code 0 = .ok (.iload_n 0, 1) := by decide +kernel
theorem d_8_10_1 : decode prog_8_method_10_code 1 = .ok (.bipush 97, 2) := by decide +kernel
theorem d_8_10_3 : decode prog_8_method_10_code 3 = .ok (.if_icmp .lt 13, 3) := by decide +kernel
theorem d_8_10_6 : decode prog_8_method_10_code 6 = .ok (.iload_n 0, 1) := by decide +kernel
theorem d_8_10_7 : decode prog_8_method_10_code 7 = .ok (.bipush 122, 2) := by decide +kernel
theorem d_8_10_9 : decode prog_8_method_10_code 9 = .ok (.if_icmp .gt 7, 3) := by decide +kernel
theorem d_8_10_12 : decode prog_8_method_10_code 12 = .ok (.iconst 1, 1) := by decide +kernel
theorem d_8_10_13 : decode prog_8_method_10_code 13 = .ok (.goto 4, 3) := by decide +kernel
theorem d_8_10_16 : decode prog_8_method_10_code 16 = .ok (.iconst 0, 1) := by decide +kernel
theorem d_8_10_17 : decode prog_8_method_10_code 17 = .ok (.ireturn, 1) := by decide +kernel
theorem d_8_11_0 : decode prog_8_method_11_code 0 = .ok (.iload_n 0, 1) := by decide +kernel
theorem d_8_11_1 : decode prog_8_method_11_code 1 = .ok (.bipush 48, 2) := by decide +kernel
theorem d_8_11_3 : decode prog_8_method_11_code 3 = .ok (.if_icmp .lt 13, 3) := by decide +kernel
theorem d_8_11_6 : decode prog_8_method_11_code 6 = .ok (.iload_n 0, 1) := by decide +kernel
theorem d_8_11_7 : decode prog_8_method_11_code 7 = .ok (.bipush 57, 2) := by decide +kernel
theorem d_8_11_9 : decode prog_8_method_11_code 9 = .ok (.if_icmp .gt 7, 3) := by decide +kernel
theorem d_8_11_12 : decode prog_8_method_11_code 12 = .ok (.iconst 1, 1) := by decide +kernel
theorem d_8_11_13 : decode prog_8_method_11_code 13 = .ok (.goto 4, 3) := by decide +kernel
theorem d_8_11_16 : decode prog_8_method_11_code 16 = .ok (.iconst 0, 1) := by decide +kernel
theorem d_8_11_17 : decode prog_8_method_11_code 17 = .ok (.ireturn, 1) := by decide +kernel
theorem d_8_12_0 : decode prog_8_method_12_code 0 = .ok (.iload_n 0, 1) := by decide +kernel
theorem d_8_12_1 : decode prog_8_method_12_code 1 = .ok (.invokestatic 68, 3) := by decide +kernel
theorem d_8_12_4 : decode prog_8_method_12_code 4 = .ok (.ifCond .ne 10, 3) := by decide +kernel
theorem d_8_12_7 : decode prog_8_method_12_code 7 = .ok (.iload_n 0, 1) := by decide +kernel
theorem d_8_12_8 : decode prog_8_method_12_code 8 = .ok (.invokestatic 75, 3) := by decide +kernel
theorem d_8_12_11 : decode prog_8_method_12_code 11 = .ok (.ifCond .eq 7, 3) := by decide +kernel
theorem d_8_12_14 : decode prog_8_method_12_code 14 = .ok (.iconst 1, 1) := by decide +kernel
theorem d_8_12_15 : decode prog_8_method_12_code 15 = .ok (.goto 4, 3) := by decide +kernel
theorem d_8_12_18 : decode prog_8_method_12_code 18 = .ok (.iconst 0, 1) := by decide +kernel
theorem d_8_12_19 : decode prog_8_method_12_code 19 = .ok (.ireturn, 1) := by decide +kernel
theorem d_8_13_0 : decode prog_8_method_13_code 0 = .ok (.lload_n 0, 1) := by decide +kernel
theorem d_8_13_1 : decode prog_8_method_13_code 1 = .ok (.ldc2_w 104, 3) := by decide +kernel
theorem d_8_13_4 : decode prog_8_method_13_code 4 = .ok (.lmul, 1) := by decide +kernel
theorem d_8_13_5 : decode prog_8_method_13_code 5 = .ok (.iload_n 2, 1) := by decide +kernel
theorem d_8_13_6 : decode prog_8_method_13_code 6 = .ok (.invokestatic 68, 3) := by decide +kernel
theorem d_8_13_9 : decode prog_8_method_13_code 9 = .ok (.ifCond .eq 12, 3) := by decide +kernel
theorem d_8_13_12 : decode prog_8_method_13_code 12 = .ok (.iload_n 2, 1) := by decide +kernel
theorem d_8_13_13 : decode prog_8_method_13_code 13 = .ok (.bipush 97, 2) := by decide +kernel
theorem d_8_13_15 : decode prog_8_method_13_code 15 = .ok (.isub, 1) := by decide +kernel
theorem d_8_13_16 : decode prog_8_method_13_code 16 = .ok (.iconst 1, 1) := by decide +kernel
theorem d_8_13_17 : decode prog_8_method_13_code 17 = .ok (.iadd, 1) := by decide +kernel
theorem d_8_13_18 : decode prog_8_method_13_code 18 = .ok (.goto 10, 3) := by decide +kernel
theorem d_8_13_21 : decode prog_8_method_13_code 21 = .ok (.iload_n 2, 1) := by decide +kernel
theorem d_8_13_22 : decode prog_8_method_13_code 22 = .ok (.bipush 48, 2) := by decide +kernel
theorem d_8_13_24 : decode prog_8_method_13_code 24 = .ok (.isub, 1) := by decide +kernel
theorem d_8_13_25 : decode prog_8_method_13_code 25 = .ok (.bipush 27, 2) := by decide +kernel
theorem d_8_13_27 : decode prog_8_method_13_code 27 = .ok (.iadd, 1) := by decide +kernel
theorem d_8_13_28 : decode prog_8_method_13_code 28 = .ok (.i2l, 1) := by decide +kernel
theorem d_8_13_29 : decode prog_8_method_13_code 29 = .ok (.ladd, 1) := by decide +kernel
theorem d_8_13_30 : decode prog_8_method_13_code 30 = .ok (.lreturn, 1) := by decide +kernel
theorem d_8_14_0 : decode prog_8_method_14_code 0 = .ok (.aload_n 0, 1) := by decide +kernel
theorem d_8_14_1 : decode prog_8_method_14_code 1 = .ok (.getfield 25, 3) := by decide +kernel
theorem d_8_14_4 : decode prog_8_method_14_code 4 = .ok (.sipush 3001, 3) := by decide +kernel
theorem d_8_14_7 : decode prog_8_method_14_code 7 = .ok (.if_icmp .ge 43, 3) := by decide +kernel
theorem d_8_14_10 : decode prog_8_method_14_code 10 = .ok (.aload_n 0, 1) := by decide +kernel
theorem d_8_14_11 : decode prog_8_method_14_code 11 = .ok (.getfield 9, 3) := by decide +kernel
theorem d_8_14_14 : decode prog_8_method_14_code 14 = .ok (.aload_n 0, 1) := by decide +kernel
theorem d_8_14_15 : decode prog_8_method_14_code 15 = .ok (.getfield 25, 3) := by decide +kernel
theorem d_8_14_18 : decode prog_8_method_14_code 18 = .ok (.iload_n 1, 1) := by decide +kernel
theorem d_8_14_19 : decode prog_8_method_14_code 19 = .ok (.iastore, 1) := by decide +kernel
theorem d_8_14_20 : decode prog_8_method_14_code 20 = .ok (.aload_n 0, 1) := by decide +kernel
theorem d_8_14_21 : decode prog_8_method_14_code 21 = .ok (.getfield 15, 3) := by decide +kernel
theorem d_8_14_24 : decode prog_8_method_14_code 24 = .ok (.aload_n 0, 1) := by decide +kernel
theorem d_8_14_25 : decode prog_8_method_14_code 25 = .ok (.getfield 25, 3) := by decide +kernel
theorem d_8_14_28 : decode prog_8_method_14_code 28 = .ok (.iload_n 2, 1) := by decide +kernel
theorem d_8_14_29 : decode prog_8_method_14_code 29 = .ok (.iastore, 1) := by decide +kernel
theorem d_8_14_30 : decode prog_8_method_14_code 30 = .ok (.aload_n 0, 1) := by decide +kernel
theorem d_8_14_31 : decode prog_8_method_14_code 31 = .ok (.getfield 18, 3) := by decide +kernel
theorem d_8_14_34 : decode prog_8_method_14_code 34 = .ok (.aload_n 0, 1) := by decide +kernel
theorem d_8_14_35 : decode prog_8_method_14_code 35 = .ok (.getfield 25, 3) := by decide +kernel
theorem d_8_14_38 : decode prog_8_method_14_code 38 = .ok (.lload_n 3, 1) := by decide +kernel
theorem d_8_14_39 : decode prog_8_method_14_code 39 = .ok (.lastore, 1) := by decide +kernel
theorem d_8_14_40 : decode prog_8_method_14_code 40 = .ok (.aload_n 0, 1) := by decide +kernel
theorem d_8_14_41 : decode prog_8_method_14_code 41 = .ok (.dup, 1) := by decide +kernel
theorem d_8_14_42 : decode prog_8_method_14_code 42 = .ok (.getfield 25, 3) := by decide +kernel
theorem d_8_14_45 : decode prog_8_method_14_code 45 = .ok (.iconst 1, 1) := by decide +kernel
theorem d_8_14_46 : decode prog_8_method_14_code 46 = .ok (.iadd, 1) := by decide +kernel
theorem d_8_14_47 : decode prog_8_method_14_code 47 = .ok (.putfield 25, 3) := by decide +kernel
theorem d_8_14_50 : decode prog_8_method_14_code 50 = .ok (.return_, 1) := by decide +kernel
theorem d_8_15_0 : decode prog_8_method_15_code 0 = .ok (.aload_n 0, 1) := by decide +kernel
theorem d_8_15_1 : decode prog_8_method_15_code 1 = .ok (.iconst 0, 1) := by decide +kernel
theorem d_8_15_2 : decode prog_8_method_15_code 2 = .ok (.putfield 29, 3) := by decide +kernel
theorem d_8_15_5 : decode prog_8_method_15_code 5 = .ok (.aload_n 0, 1) := by decide +kernel
theorem d_8_15_6 : decode prog_8_method_15_code 6 = .ok (.iconst 0, 1) := by decide +kernel
theorem d_8_15_7 : decode prog_8_method_15_code 7 = .ok (.putfield 32, 3) := by decide +kernel
theorem d_8_15_10 : decode prog_8_method_15_code 10 = .ok (.return_, 1) := by decide +kernel
theorem d_8_16_0 : decode prog_8_method_16_code 0 = .ok (.aload_n 0, 1) := by decide +kernel
theorem d_8_16_1 : decode prog_8_method_16_code 1 = .ok (.getfield 35, 3) := by decide +kernel
theorem d_8_16_4 : decode prog_8_method_16_code 4 = .ok (.ireturn, 1) := by decide +kernel
theorem d_8_17_0 : decode prog_8_method_17_code 0 = .ok (.aload_n 0, 1) := by decide +kernel
theorem d_8_17_1 : decode prog_8_method_17_code 1 = .ok (.getfield 35, 3) := by decide +kernel
theorem d_8_17_4 : decode prog_8_method_17_code 4 = .ok (.bipush (-2), 2) := by decide +kernel
theorem d_8_17_6 : decode prog_8_method_17_code 6 = .ok (.if_icmp .ne 26, 3) := by decide +kernel
theorem d_8_17_9 : decode prog_8_method_17_code 9 = .ok (.aload_n 0, 1) := by decide +kernel
theorem d_8_17_10 : decode prog_8_method_17_code 10 = .ok (.getfield 29, 3) := by decide +kernel
theorem d_8_17_13 : decode prog_8_method_17_code 13 = .ok (.aload_n 0, 1) := by decide +kernel
theorem d_8_17_14 : decode prog_8_method_17_code 14 = .ok (.getfield 25, 3) := by decide +kernel
theorem d_8_17_17 : decode prog_8_method_17_code 17 = .ok (.if_icmp .ge 15, 3) := by decide +kernel
theorem d_8_17_20 : decode prog_8_method_17_code 20 = .ok (.aload_n 0, 1) := by decide +kernel
theorem d_8_17_21 : decode prog_8_method_17_code 21 = .ok (.getfield 9, 3) := by decide +kernel
theorem d_8_17_24 : decode prog_8_method_17_code 24 = .ok (.aload_n 0, 1) := by decide +kernel
theorem d_8_17_25 : decode prog_8_method_17_code 25 = .ok (.getfield 29, 3) := by decide +kernel
theorem d_8_17_28 : decode prog_8_method_17_code 28 = .ok (.iaload, 1) := by decide +kernel
theorem d_8_17_29 : decode prog_8_method_17_code 29 = .ok (.goto 5, 3) := by decide +kernel
theorem d_8_17_32 : decode prog_8_method_17_code 32 = .ok (.bipush (-2), 2) := by decide +kernel
theorem d_8_17_34 : decode prog_8_method_17_code 34 = .ok (.ireturn, 1) := by decide +kernel
theorem d_8_18_0 : decode prog_8_method_18_code 0 = .ok (.aload_n 0, 1) := by decide +kernel
theorem d_8_18_1 : decode prog_8_method_18_code 1 = .ok (.getfield 35, 3) := by decide +kernel
theorem d_8_18_4 : decode prog_8_method_18_code 4 = .ok (.bipush (-2), 2) := by decide +kernel
theorem d_8_18_6 : decode prog_8_method_18_code 6 = .ok (.if_icmp .ne 30, 3) := by decide +kernel
theorem d_8_18_9 : decode prog_8_method_18_code 9 = .ok (.aload_n 0, 1) := by decide +kernel
theorem d_8_18_10 : decode prog_8_method_18_code 10 = .ok (.getfield 29, 3) := by decide +kernel
theorem d_8_18_13 : decode prog_8_method_18_code 13 = .ok (.iconst 1, 1) := by decide +kernel
theorem d_8_18_14 : decode prog_8_method_18_code 14 = .ok (.iadd, 1) := by decide +kernel
theorem d_8_18_15 : decode prog_8_method_18_code 15 = .ok (.aload_n 0, 1) := by decide +kernel
theorem d_8_18_16 : decode prog_8_method_18_code 16 = .ok (.getfield 25, 3) := by decide +kernel
theorem d_8_18_19 : decode prog_8_method_18_code 19 = .ok (.if_icmp .ge 17, 3) := by decide +kernel
theorem d_8_18_22 : decode prog_8_method_18_code 22 = .ok (.aload_n 0, 1) := by decide +kernel
theorem d_8_18_23 : decode prog_8_method_18_code 23 = .ok (.getfield 9, 3) := by decide +kernel
theorem d_8_18_26 : decode prog_8_method_18_code 26 = .ok (.aload_n 0, 1) := by decide +kernel
theorem d_8_18_27 : decode prog_8_method_18_code 27 = .ok (.getfield 29, 3) := by decide +kernel
theorem d_8_18_30 : decode prog_8_method_18_code 30 = .ok (.iconst 1, 1) := by decide +kernel
theorem d_8_18_31 : decode prog_8_method_18_code 31 = .ok (.iadd, 1) := by decide +kernel
theorem d_8_18_32 : decode prog_8_method_18_code 32 = .ok (.iaload, 1) := by decide +kernel
theorem d_8_18_33 : decode prog_8_method_18_code 33 = .ok (.goto 5, 3) := by decide +kernel
theorem d_8_18_36 : decode prog_8_method_18_code 36 = .ok (.bipush (-2), 2) := by decide +kernel
theorem d_8_18_38 : decode prog_8_method_18_code 38 = .ok (.ireturn, 1) := by decide +kernel
theorem d_8_19_0 : decode prog_8_method_19_code 0 = .ok (.aload_n 0, 1) := by decide +kernel
theorem d_8_19_1 : decode prog_8_method_19_code 1 = .ok (.getfield 29, 3) := by decide +kernel
theorem d_8_19_4 : decode prog_8_method_19_code 4 = .ok (.aload_n 0, 1) := by decide +kernel
theorem d_8_19_5 : decode prog_8_method_19_code 5 = .ok (.getfield 25, 3) := by decide +kernel
theorem d_8_19_8 : decode prog_8_method_19_code 8 = .ok (.if_icmp .ge 15, 3) := by decide +kernel
theorem d_8_19_11 : decode prog_8_method_19_code 11 = .ok (.aload_n 0, 1) := by decide +kernel
theorem d_8_19_12 : decode prog_8_method_19_code 12 = .ok (.getfield 15, 3) := by decide +kernel
theorem d_8_19_15 : decode prog_8_method_19_code 15 = .ok (.aload_n 0, 1) := by decide +kernel
theorem d_8_19_16 : decode prog_8_method_19_code 16 = .ok (.getfield 29, 3) := by decide +kernel
theorem d_8_19_19 : decode prog_8_method_19_code 19 = .ok (.iaload, 1) := by decide +kernel
theorem d_8_19_20 : decode prog_8_method_19_code 20 = .ok (.goto 4, 3) := by decide +kernel
theorem d_8_19_23 : decode prog_8_method_19_code 23 = .ok (.iconst 0, 1) := by decide +kernel
theorem d_8_19_24 : decode prog_8_method_19_code 24 = .ok (.ireturn, 1) := by decide +kernel
theorem d_8_1_0 : decode prog_8_method_1_code 0 = .ok (.aload_n 0, 1) := by decide +kernel
theorem d_8_1_1 : decode prog_8_method_1_code 1 = .ok (.invokespecial 3, 3) := by decide +kernel
theorem d_8_1_4 : decode prog_8_method_1_code 4 = .ok (.aload_n 0, 1) := by decide +kernel
theorem d_8_1_5 : decode prog_8_method_1_code 5 = .ok (.sipush 3001, 3) := by decide +kernel
theorem d_8_1_8 : decode prog_8_method_1_code 8 = .ok (.newarray .int, 2) := by decide +kernel
theorem d_8_1_10 : decode prog_8_method_1_code 10 = .ok (.putfield 9, 3) := by decide +kernel
theorem d_8_1_13 : decode prog_8_method_1_code 13 = .ok (.aload_n 0, 1) := by decide +kernel
theorem d_8_1_14 : decode prog_8_method_1_code 14 = .ok (.sipush 3001, 3) := by decide +kernel
theorem d_8_1_17 : decode prog_8_method_1_code 17 = .ok (.newarray .int, 2) := by decide +kernel
theorem d_8_1_19 : decode prog_8_method_1_code 19 = .ok (.putfield 15, 3) := by decide +kernel
theorem d_8_1_22 : decode prog_8_method_1_code 22 = .ok (.aload_n 0, 1) := by decide +kernel
theorem d_8_1_23 : decode prog_8_method_1_code 23 = .ok (.sipush 3001, 3) := by decide +kernel
theorem d_8_1_26 : decode prog_8_method_1_code 26 = .ok (.newarray .long, 2) := by decide +kernel
theorem d_8_1_28 : decode prog_8_method_1_code 28 = .ok (.putfield 18, 3) := by decide +kernel
theorem d_8_1_31 : decode prog_8_method_1_code 31 = .ok (.aload_n 0, 1) := by decide +kernel
theorem d_8_1_32 : decode prog_8_method_1_code 32 = .ok (.bipush 27, 2) := by decide +kernel
theorem d_8_1_34 : decode prog_8_method_1_code 34 = .ok (.newarray .long, 2) := by decide +kernel
theorem d_8_1_36 : decode prog_8_method_1_code 36 = .ok (.putfield 22, 3) := by decide +kernel
theorem d_8_1_39 : decode prog_8_method_1_code 39 = .ok (.aload_n 0, 1) := by decide +kernel
theorem d_8_1_40 : decode prog_8_method_1_code 40 = .ok (.iconst 0, 1) := by decide +kernel
theorem d_8_1_41 : decode prog_8_method_1_code 41 = .ok (.putfield 25, 3) := by decide +kernel
theorem d_8_1_44 : decode prog_8_method_1_code 44 = .ok (.aload_n 0, 1) := by decide +kernel
theorem d_8_1_45 : decode prog_8_method_1_code 45 = .ok (.iconst 0, 1) := by decide +kernel
theorem d_8_1_46 : decode prog_8_method_1_code 46 = .ok (.putfield 29, 3) := by decide +kernel
theorem d_8_1_49 : decode prog_8_method_1_code 49 = .ok (.aload_n 0, 1) := by decide +kernel
theorem d_8_1_50 : decode prog_8_method_1_code 50 = .ok (.iconst 0, 1) := by decide +kernel
theorem d_8_1_51 : decode prog_8_method_1_code 51 = .ok (.putfield 32, 3) := by decide +kernel
theorem d_8_1_54 : decode prog_8_method_1_code 54 = .ok (.aload_n 0, 1) := by decide +kernel
theorem d_8_1_55 : decode prog_8_method_1_code 55 = .ok (.bipush (-2), 2) := by decide +kernel
theorem d_8_1_57 : decode prog_8_method_1_code 57 = .ok (.putfield 35, 3) := by decide +kernel
theorem d_8_1_60 : decode prog_8_method_1_code 60 = .ok (.aload_n 0, 1) := by decide +kernel
theorem d_8_1_61 : decode prog_8_method_1_code 61 = .ok (.invokevirtual 38, 3) := by decide +kernel
theorem d_8_1_64 : decode prog_8_method_1_code 64 = .ok (.return_, 1) := by decide +kernel
theorem d_8_20_0 : decode prog_8_method_20_code 0 = .ok (.aload_n 0, 1) := by decide +kernel
theorem d_8_20_1 : decode prog_8_method_20_code 1 = .ok (.getfield 29, 3) := by decide +kernel
theorem d_8_20_4 : decode prog_8_method_20_code 4 = .ok (.aload_n 0, 1) := by decide +kernel
theorem d_8_20_5 : decode prog_8_method_20_code 5 = .ok (.getfield 25, 3) := by decide +kernel
theorem d_8_20_8 : decode prog_8_method_20_code 8 = .ok (.if_icmp .ge 15, 3) := by decide +kernel
theorem d_8_20_11 : decode prog_8_method_20_code 11 = .ok (.aload_n 0, 1) := by decide +kernel
theorem d_8_20_12 : decode prog_8_method_20_code 12 = .ok (.getfield 18, 3) := by decide +kernel
theorem d_8_20_15 : decode prog_8_method_20_code 15 = .ok (.aload_n 0, 1) := by decide +kernel
theorem d_8_20_16 : decode prog_8_method_20_code 16 = .ok (.getfield 29, 3) := by decide +kernel
theorem d_8_20_19 : decode prog_8_method_20_code 19 = .ok (.laload, 1) := by decide +kernel
theorem d_8_20_20 : decode prog_8_method_20_code 20 = .ok (.goto 4, 3) := by decide +kernel
theorem d_8_20_23 : decode prog_8_method_20_code 23 = .ok (.lconst 0, 1) := by decide +kernel
theorem d_8_20_24 : decode prog_8_method_20_code 24 = .ok (.lreturn, 1) := by decide +kernel
theorem d_8_21_0 : decode prog_8_method_21_code 0 = .ok (.aload_n 0, 1) := by decide +kernel
theorem d_8_21_1 : decode prog_8_method_21_code 1 = .ok (.invokevirtual 106, 3) := by decide +kernel
theorem d_8_21_4 : decode prog_8_method_21_code 4 = .ok (.iload_n 1, 1) := by decide +kernel
theorem d_8_21_5 : decode prog_8_method_21_code 5 = .ok (.if_icmp .ne 7, 3) := by decide +kernel
theorem d_8_21_8 : decode prog_8_method_21_code 8 = .ok (.iconst 1, 1) := by decide +kernel
theorem d_8_21_9 : decode prog_8_method_21_code 9 = .ok (.goto 4, 3) := by decide +kernel
theorem d_8_21_12 : decode prog_8_method_21_code 12 = .ok (.iconst 0, 1) := by decide +kernel
theorem d_8_21_13 : decode prog_8_method_21_code 13 = .ok (.ireturn, 1) := by decide +kernel
theorem d_8_22_0 : decode prog_8_method_22_code 0 = .ok (.aload_n 0, 1) := by decide +kernel
theorem d_8_22_1 : decode prog_8_method_22_code 1 = .ok (.getfield 29, 3) := by decide +kernel
theorem d_8_22_4 : decode prog_8_method_22_code 4 = .ok (.aload_n 0, 1) := by decide +kernel
theorem d_8_22_5 : decode prog_8_method_22_code 5 = .ok (.getfield 25, 3) := by decide +kernel
theorem d_8_22_8 : decode prog_8_method_22_code 8 = .ok (.iconst 1, 1) := by decide +kernel
theorem d_8_22_9 : decode prog_8_method_22_code 9 = .ok (.isub, 1) := by decide +kernel
theorem d_8_22_10 : decode prog_8_method_22_code 10 = .ok (.if_icmp .ge 13, 3) := by decide +kernel
theorem d_8_22_13 : decode prog_8_method_22_code 13 = .ok (.aload_n 0, 1) := by decide +kernel
theorem d_8_22_14 : decode prog_8_method_22_code 14 = .ok (.dup, 1) := by decide +kernel
theorem d_8_22_15 : decode prog_8_method_22_code 15 = .ok (.getfield 29, 3) := by decide +kernel
theorem d_8_22_18 : decode prog_8_method_22_code 18 = .ok (.iconst 1, 1) := by decide +kernel
theorem d_8_22_19 : decode prog_8_method_22_code 19 = .ok (.iadd, 1) := by decide +kernel
theorem d_8_22_20 : decode prog_8_method_22_code 20 = .ok (.putfield 29, 3) := by decide +kernel
theorem d_8_22_23 : decode prog_8_method_22_code 23 = .ok (.return_, 1) := by decide +kernel
theorem d_8_23_0 : decode prog_8_method_23_code 0 = .ok (.aload_n 0, 1) := by decide +kernel
theorem d_8_23_1 : decode prog_8_method_23_code 1 = .ok (.invokevirtual 106, 3) := by decide +kernel
theorem d_8_23_4 : decode prog_8_method_23_code 4 = .ok (.iload_n 1, 1) := by decide +kernel
theorem d_8_23_5 : decode prog_8_method_23_code 5 = .ok (.if_icmp .eq 5, 3) := by decide +kernel
theorem d_8_23_8 : decode prog_8_method_23_code 8 = .ok (.iconst 0, 1) := by decide +kernel
theorem d_8_23_9 : decode prog_8_method_23_code 9 = .ok (.ireturn, 1) := by decide +kernel
theorem d_8_23_10 : decode prog_8_method_23_code 10 = .ok (.aload_n 0, 1) := by decide +kernel
theorem d_8_23_11 : decode prog_8_method_23_code 11 = .ok (.invokevirtual 109, 3) := by decide +kernel
theorem d_8_23_14 : decode prog_8_method_23_code 14 = .ok (.iconst 1, 1) := by decide +kernel
theorem d_8_23_15 : decode prog_8_method_23_code 15 = .ok (.ireturn, 1) := by decide +kernel
theorem d_8_24_0 : decode prog_8_method_24_code 0 = .ok (.aload_n 0, 1) := by decide +kernel
theorem d_8_24_1 : decode prog_8_method_24_code 1 = .ok (.invokevirtual 106, 3) := by decide +kernel
theorem d_8_24_4 : decode prog_8_method_24_code 4 = .ok (.iload_n 1, 1) := by decide +kernel
theorem d_8_24_5 : decode prog_8_method_24_code 5 = .ok (.if_icmp .ne 10, 3) := by decide +kernel
theorem d_8_24_8 : decode prog_8_method_24_code 8 = .ok (.aload_n 0, 1) := by decide +kernel
theorem d_8_24_9 : decode prog_8_method_24_code 9 = .ok (.invokevirtual 109, 3) := by decide +kernel
theorem d_8_24_12 : decode prog_8_method_24_code 12 = .ok (.goto 7, 3) := by decide +kernel
theorem d_8_24_15 : decode prog_8_method_24_code 15 = .ok (.aload_n 0, 1) := by decide +kernel
theorem d_8_24_16 : decode prog_8_method_24_code 16 = .ok (.invokevirtual 112, 3) := by decide +kernel
theorem d_8_24_19 : decode prog_8_method_24_code 19 = .ok (.return_, 1) := by decide +kernel
theorem d_8_25_0 : decode prog_8_method_25_code 0 = .ok (.aload_n 0, 1) := by decide +kernel
theorem d_8_25_1 : decode prog_8_method_25_code 1 = .ok (.getfield 35, 3) := by decide +kernel
theorem d_8_25_4 : decode prog_8_method_25_code 4 = .ok (.bipush (-2), 2) := by decide +kernel
theorem d_8_25_6 : decode prog_8_method_25_code 6 = .ok (.if_icmp .ne 27, 3) := by decide +kernel
theorem d_8_25_9 : decode prog_8_method_25_code 9 = .ok (.aload_n 0, 1) := by decide +kernel
theorem d_8_25_10 : decode prog_8_method_25_code 10 = .ok (.getfield 29, 3) := by decide +kernel
theorem d_8_25_13 : decode prog_8_method_25_code 13 = .ok (.aload_n 0, 1) := by decide +kernel
theorem d_8_25_14 : decode prog_8_method_25_code 14 = .ok (.getfield 25, 3) := by decide +kernel
theorem d_8_25_17 : decode prog_8_method_25_code 17 = .ok (.if_icmp .ge 16, 3) := by decide +kernel
theorem d_8_25_20 : decode prog_8_method_25_code 20 = .ok (.aload_n 0, 1) := by decide +kernel
theorem d_8_25_21 : decode prog_8_method_25_code 21 = .ok (.aload_n 0, 1) := by decide +kernel
theorem d_8_25_22 : decode prog_8_method_25_code 22 = .ok (.getfield 15, 3) := by decide +kernel
