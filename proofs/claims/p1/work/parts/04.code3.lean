theorem d_7_1_40 : decode prog_7_method_1_code 40 = .ok (.aload_n 0, 1) := by decide +kernel
theorem d_7_1_41 : decode prog_7_method_1_code 41 = .ok (.sipush 1501, 3) := by decide +kernel
theorem d_7_1_44 : decode prog_7_method_1_code 44 = .ok (.newarray .int, 2) := by decide +kernel
theorem d_7_1_46 : decode prog_7_method_1_code 46 = .ok (.putfield 25, 3) := by decide +kernel
theorem d_7_1_49 : decode prog_7_method_1_code 49 = .ok (.aload_n 0, 1) := by decide +kernel
theorem d_7_1_50 : decode prog_7_method_1_code 50 = .ok (.sipush 1501, 3) := by decide +kernel
theorem d_7_1_53 : decode prog_7_method_1_code 53 = .ok (.newarray .int, 2) := by decide +kernel
theorem d_7_1_55 : decode prog_7_method_1_code 55 = .ok (.putfield 28, 3) := by decide +kernel
theorem d_7_1_58 : decode prog_7_method_1_code 58 = .ok (.aload_n 0, 1) := by decide +kernel
theorem d_7_1_59 : decode prog_7_method_1_code 59 = .ok (.sipush 1501, 3) := by decide +kernel
theorem d_7_1_62 : decode prog_7_method_1_code 62 = .ok (.newarray .int, 2) := by decide +kernel
theorem d_7_1_64 : decode prog_7_method_1_code 64 = .ok (.putfield 31, 3) := by decide +kernel
theorem d_7_1_67 : decode prog_7_method_1_code 67 = .ok (.aload_n 0, 1) := by decide +kernel
theorem d_7_1_68 : decode prog_7_method_1_code 68 = .ok (.sipush 1501, 3) := by decide +kernel
theorem d_7_1_71 : decode prog_7_method_1_code 71 = .ok (.newarray .int, 2) := by decide +kernel
theorem d_7_1_73 : decode prog_7_method_1_code 73 = .ok (.putfield 34, 3) := by decide +kernel
theorem d_7_1_76 : decode prog_7_method_1_code 76 = .ok (.aload_n 0, 1) := by decide +kernel
theorem d_7_1_77 : decode prog_7_method_1_code 77 = .ok (.sipush 1501, 3) := by decide +kernel
theorem d_7_1_80 : decode prog_7_method_1_code 80 = .ok (.newarray .int, 2) := by decide +kernel
theorem d_7_1_82 : decode prog_7_method_1_code 82 = .ok (.putfield 37, 3) := by decide +kernel
theorem d_7_1_85 : decode prog_7_method_1_code 85 = .ok (.aload_n 0, 1) := by decide +kernel
theorem d_7_1_86 : decode prog_7_method_1_code 86 = .ok (.sipush 1501, 3) := by decide +kernel
theorem d_7_1_89 : decode prog_7_method_1_code 89 = .ok (.newarray .boolean, 2) := by decide +kernel
theorem d_7_1_91 : decode prog_7_method_1_code 91 = .ok (.putfield 40, 3) := by decide +kernel
theorem d_7_1_94 : decode prog_7_method_1_code 94 = .ok (.aload_n 0, 1) := by decide +kernel
theorem d_7_1_95 : decode prog_7_method_1_code 95 = .ok (.iconst 0, 1) := by decide +kernel
theorem d_7_1_96 : decode prog_7_method_1_code 96 = .ok (.putfield 44, 3) := by decide +kernel
theorem d_7_1_99 : decode prog_7_method_1_code 99 = .ok (.return_, 1) := by decide +kernel
theorem d_7_2_0 : decode prog_7_method_2_code 0 = .ok (.aload_n 0, 1) := by decide +kernel
theorem d_7_2_1 : decode prog_7_method_2_code 1 = .ok (.iconst 0, 1) := by decide +kernel
theorem d_7_2_2 : decode prog_7_method_2_code 2 = .ok (.putfield 44, 3) := by decide +kernel
theorem d_7_2_5 : decode prog_7_method_2_code 5 = .ok (.return_, 1) := by decide +kernel
theorem d_8_10_0 : decode prog_8_method_10_code 0 = .ok (.iload_n 0, 1) := by decide +kernel
theorem d_8_10_1 : decode prog_8_method_10_code 1 = .ok (.bipush 97, 2) := by decide +kernel
theorem d_8_10_3 : decode prog_8_method_10_code 3 = .ok (.if_icmp .lt 13, 3) := by decide +kernel
theorem d_8_10_6 : decode prog_8_method_10_code 6 = .ok (.iload_n 0, 1) := by decide +kernel
theorem d_8_10_7 : decode prog_8_method_10_code 7 = .ok (.bipush 122, 2) := by decide +kernel
theorem d_8_10_9 : decode prog_8_method_10_code 9 = .ok (.if_icmp .gt 7, 3) := by decide +kernel
theorem d_8_10_12 : decode prog_8_method_10_code 12 = .ok (.iconst 1, 1) := by decide +kernel
theorem d_8_10_13 : decode prog_8_method_10_code 13 = .ok (.goto 4, 3) := by decide +kernel
theorem d_8_10_16 : decode prog_8_method_10_code 16 = .ok (.iconst 0, 1) := by decide +kernel
theorem d_8_10_17 : decode prog_8_method_10_code 17 = .ok (.ireturn, 1) := by decide +kernel
theorem d_8_13_0 : decode prog_8_method_13_code 0 = .ok (.lload_n 0, 1) := by decide +kernel
theorem d_8_13_1 : decode prog_8_method_13_code 1 = .ok (.ldc2_w 104, 3) := by decide +kernel
theorem d_8_13_4 : decode prog_8_method_13_code 4 = .ok (.lmul, 1) := by decide +kernel
theorem d_8_13_5 : decode prog_8_method_13_code 5 = .ok (.iload_n 2, 1) := by decide +kernel
theorem d_8_13_6 : decode prog_8_method_13_code 6 = .ok (.invokestatic 68, 3) := by decide +kernel
theorem d_8_13_9 : decode prog_8_method_13_code 9 = .ok (.ifCond .eq 12, 3) := by decide +kernel
theorem d_8_13_12 : decode prog_8_method_13_code 12 = .ok (.iload_n 2, 1) := by decide +kernel
theorem d_8_13_13 : decode prog_8_method_13_code 13 = .ok (.bipush 97, 2) := by decide +kernel
theorem d_8_13_15 : decode prog_8_method_13_code 15 = .ok (.isub, 1) := by decide +kernel
theorem d_8_13_16 : decode prog_8_method_13_code 16 = .ok (.iconst 1, 1) := by decide +kernel
theorem d_8_13_17 : decode prog_8_method_13_code 17 = .ok (.iadd, 1) := by decide +kernel
theorem d_8_13_18 : decode prog_8_method_13_code 18 = .ok (.goto 10, 3) := by decide +kernel
theorem d_8_13_21 : decode prog_8_method_13_code 21 = .ok (.iload_n 2, 1) := by decide +kernel
theorem d_8_13_22 : decode prog_8_method_13_code 22 = .ok (.bipush 48, 2) := by decide +kernel
theorem d_8_13_24 : decode prog_8_method_13_code 24 = .ok (.isub, 1) := by decide +kernel
theorem d_8_13_25 : decode prog_8_method_13_code 25 = .ok (.bipush 27, 2) := by decide +kernel
theorem d_8_13_27 : decode prog_8_method_13_code 27 = .ok (.iadd, 1) := by decide +kernel
theorem d_8_13_28 : decode prog_8_method_13_code 28 = .ok (.i2l, 1) := by decide +kernel
theorem d_8_13_29 : decode prog_8_method_13_code 29 = .ok (.ladd, 1) := by decide +kernel
theorem d_8_13_30 : decode prog_8_method_13_code 30 = .ok (.lreturn, 1) := by decide +kernel
theorem d_8_14_0 : decode prog_8_method_14_code 0 = .ok (.aload_n 0, 1) := by decide +kernel
theorem d_8_14_1 : decode prog_8_method_14_code 1 = .ok (.getfield 25, 3) := by decide +kernel
theorem d_8_14_4 : decode prog_8_method_14_code 4 = .ok (.sipush 3001, 3) := by decide +kernel
theorem d_8_14_7 : decode prog_8_method_14_code 7 = .ok (.if_icmp .ge 43, 3) := by decide +kernel
theorem d_8_14_10 : decode prog_8_method_14_code 10 = .ok (.aload_n 0, 1) := by decide +kernel
theorem d_8_14_11 : decode prog_8_method_14_code 11 = .ok (.getfield 9, 3) := by decide +kernel
theorem d_8_14_14 : decode prog_8_method_14_code 14 = .ok (.aload_n 0, 1) := by decide +kernel
theorem d_8_14_15 : decode prog_8_method_14_code 15 = .ok (.getfield 25, 3) := by decide +kernel
theorem d_8_14_18 : decode prog_8_method_14_code 18 = .ok (.iload_n 1, 1) := by decide +kernel
theorem d_8_14_19 : decode prog_8_method_14_code 19 = .ok (.iastore, 1) := by decide +kernel
theorem d_8_14_20 : decode prog_8_method_14_code 20 = .ok (.aload_n 0, 1) := by decide +kernel
theorem d_8_14_21 : decode prog_8_method_14_code 21 = .ok (.getfield 15, 3) := by decide +kernel
theorem d_8_14_24 : decode prog_8_method_14_code 24 = .ok (.aload_n 0, 1) := by decide +kernel
theorem d_8_14_25 : decode prog_8_method_14_code 25 = .ok (.getfield 25, 3) := by decide +kernel
theorem d_8_14_28 : decode prog_8_method_14_code 28 = .ok (.iload_n 2, 1) := by decide +kernel
theorem d_8_14_29 : decode prog_8_method_14_code 29 = .ok (.iastore, 1) := by decide +kernel
theorem d_8_14_30 : decode prog_8_method_14_code 30 = .ok (.aload_n 0, 1) := by decide +kernel
theorem d_8_14_31 : decode prog_8_method_14_code 31 = .ok (.getfield 18, 3) := by decide +kernel
theorem d_8_14_34 : decode prog_8_method_14_code 34 = .ok (.aload_n 0, 1) := by decide +kernel
theorem d_8_14_35 : decode prog_8_method_14_code 35 = .ok (.getfield 25, 3) := by decide +kernel
theorem d_8_14_38 : decode prog_8_method_14_code 38 = .ok (.lload_n 3, 1) := by decide +kernel
theorem d_8_14_39 : decode prog_8_method_14_code 39 = .ok (.lastore, 1) := by decide +kernel
theorem d_8_14_40 : decode prog_8_method_14_code 40 = .ok (.aload_n 0, 1) := by decide +kernel
theorem d_8_14_41 : decode prog_8_method_14_code 41 = .ok (.dup, 1) := by decide +kernel
theorem d_8_14_42 : decode prog_8_method_14_code 42 = .ok (.getfield 25, 3) := by decide +kernel
theorem d_8_14_45 : decode prog_8_method_14_code 45 = .ok (.iconst 1, 1) := by decide +kernel
theorem d_8_14_46 : decode prog_8_method_14_code 46 = .ok (.iadd, 1) := by decide +kernel
theorem d_8_14_47 : decode prog_8_method_14_code 47 = .ok (.putfield 25, 3) := by decide +kernel
theorem d_8_14_50 : decode prog_8_method_14_code 50 = .ok (.return_, 1) := by decide +kernel
theorem d_8_15_0 : decode prog_8_method_15_code 0 = .ok (.aload_n 0, 1) := by decide +kernel
theorem d_8_15_1 : decode prog_8_method_15_code 1 = .ok (.iconst 0, 1) := by decide +kernel
theorem d_8_15_2 : decode prog_8_method_15_code 2 = .ok (.putfield 29, 3) := by decide +kernel
theorem d_8_15_5 : decode prog_8_method_15_code 5 = .ok (.aload_n 0, 1) := by decide +kernel
theorem d_8_15_6 : decode prog_8_method_15_code 6 = .ok (.iconst 0, 1) := by decide +kernel
theorem d_8_15_7 : decode prog_8_method_15_code 7 = .ok (.putfield 32, 3) := by decide +kernel
theorem d_8_15_10 : decode prog_8_method_15_code 10 = .ok (.return_, 1) := by decide +kernel
theorem d_8_16_0 : decode prog_8_method_16_code 0 = .ok (.aload_n 0, 1) := by decide +kernel
theorem d_8_16_1 : decode prog_8_method_16_code 1 = .ok (.getfield 35, 3) := by decide +kernel
theorem d_8_16_4 : decode prog_8_method_16_code 4 = .ok (.ireturn, 1) := by decide +kernel
theorem d_8_17_0 : decode prog_8_method_17_code 0 = .ok (.aload_n 0, 1) := by decide +kernel
theorem d_8_17_1 : decode prog_8_method_17_code 1 = .ok (.getfield 35, 3) := by decide +kernel
theorem d_8_17_4 : decode prog_8_method_17_code 4 = .ok (.bipush (-2), 2) := by decide +kernel
theorem d_8_17_6 : decode prog_8_method_17_code 6 = .ok (.if_icmp .ne 26, 3) := by decide +kernel
theorem d_8_17_9 : decode prog_8_method_17_code 9 = .ok (.aload_n 0, 1) := by decide +kernel
theorem d_8_17_10 : decode prog_8_method_17_code 10 = .ok (.getfield 29, 3) := by decide +kernel
theorem d_8_17_13 : decode prog_8_method_17_code 13 = .ok (.aload_n 0, 1) := by decide +kernel
theorem d_8_17_14 : decode prog_8_method_17_code 14 = .ok (.getfield 25, 3) := by decide +kernel
theorem d_8_17_17 : decode prog_8_method_17_code 17 = .ok (.if_icmp .ge 15, 3) := by decide +kernel
theorem d_8_17_20 : decode prog_8_method_17_code 20 = .ok (.aload_n 0, 1) := by decide +kernel
theorem d_8_17_21 : decode prog_8_method_17_code 21 = .ok (.getfield 9, 3) := by decide +kernel
theorem d_8_17_24 : decode prog_8_method_17_code 24 = .ok (.aload_n 0, 1) := by decide +kernel
theorem d_8_17_25 : decode prog_8_method_17_code 25 = .ok (.getfield 29, 3) := by decide +kernel
theorem d_8_17_28 : decode prog_8_method_17_code 28 = .ok (.iaload, 1) := by decide +kernel
theorem d_8_17_29 : decode prog_8_method_17_code 29 = .ok (.goto 5, 3) := by decide +kernel
theorem d_8_17_32 : decode prog_8_method_17_code 32 = .ok (.bipush (-2), 2) := by decide +kernel
theorem d_8_17_34 : decode prog_8_method_17_code 34 = .ok (.ireturn, 1) := by decide +kernel
theorem d_8_1_0 : decode prog_8_method_1_code 0 = .ok (.aload_n 0, 1) := by decide +kernel
theorem d_8_1_1 : decode prog_8_method_1_code 1 = .ok (.invokespecial 3, 3) := by decide +kernel
theorem d_8_1_4 : decode prog_8_method_1_code 4 = .ok (.aload_n 0, 1) := by decide +kernel
theorem d_8_1_5 : decode prog_8_method_1_code 5 = .ok (.sipush 3001, 3) := by decide +kernel
theorem d_8_1_8 : decode prog_8_method_1_code 8 = .ok (.newarray .int, 2) := by decide +kernel
theorem d_8_1_10 : decode prog_8_method_1_code 10 = .ok (.putfield 9, 3) := by decide +kernel
theorem d_8_1_13 : decode prog_8_method_1_code 13 = .ok (.aload_n 0, 1) := by decide +kernel
theorem d_8_1_14 : decode prog_8_method_1_code 14 = .ok (.sipush 3001, 3) := by decide +kernel
theorem d_8_1_17 : decode prog_8_method_1_code 17 = .ok (.newarray .int, 2) := by decide +kernel
theorem d_8_1_19 : decode prog_8_method_1_code 19 = .ok (.putfield 15, 3) := by decide +kernel
theorem d_8_1_22 : decode prog_8_method_1_code 22 = .ok (.aload_n 0, 1) := by decide +kernel
theorem d_8_1_23 : decode prog_8_method_1_code 23 = .ok (.sipush 3001, 3) := by decide +kernel
theorem d_8_1_26 : decode prog_8_method_1_code 26 = .ok (.newarray .long, 2) := by decide +kernel
theorem d_8_1_28 : decode prog_8_method_1_code 28 = .ok (.putfield 18, 3) := by decide +kernel
theorem d_8_1_31 : decode prog_8_method_1_code 31 = .ok (.aload_n 0, 1) := by decide +kernel
theorem d_8_1_32 : decode prog_8_method_1_code 32 = .ok (.bipush 27, 2) := by decide +kernel
theorem d_8_1_34 : decode prog_8_method_1_code 34 = .ok (.newarray .long, 2) := by decide +kernel
theorem d_8_1_36 : decode prog_8_method_1_code 36 = .ok (.putfield 22, 3) := by decide +kernel
theorem d_8_1_39 : decode prog_8_method_1_code 39 = .ok (.aload_n 0, 1) := by decide +kernel
theorem d_8_1_40 : decode prog_8_method_1_code 40 = .ok (.iconst 0, 1) := by decide +kernel
theorem d_8_1_41 : decode prog_8_method_1_code 41 = .ok (.putfield 25, 3) := by decide +kernel
theorem d_8_1_44 : decode prog_8_method_1_code 44 = .ok (.aload_n 0, 1) := by decide +kernel
theorem d_8_1_45 : decode prog_8_method_1_code 45 = .ok (.iconst 0, 1) := by decide +kernel
theorem d_8_1_46 : decode prog_8_method_1_code 46 = .ok (.putfield 29, 3) := by decide +kernel
theorem d_8_1_49 : decode prog_8_method_1_code 49 = .ok (.aload_n 0, 1) := by decide +kernel
theorem d_8_1_50 : decode prog_8_method_1_code 50 = .ok (.iconst 0, 1) := by decide +kernel
theorem d_8_1_51 : decode prog_8_method_1_code 51 = .ok (.putfield 32, 3) := by decide +kernel
theorem d_8_1_54 : decode prog_8_method_1_code 54 = .ok (.aload_n 0, 1) := by decide +kernel
theorem d_8_1_55 : decode prog_8_method_1_code 55 = .ok (.bipush (-2), 2) := by decide +kernel
theorem d_8_1_57 : decode prog_8_method_1_code 57 = .ok (.putfield 35, 3) := by decide +kernel
theorem d_8_1_60 : decode prog_8_method_1_code 60 = .ok (.aload_n 0, 1) := by decide +kernel
theorem d_8_1_61 : decode prog_8_method_1_code 61 = .ok (.invokevirtual 38, 3) := by decide +kernel
theorem d_8_1_64 : decode prog_8_method_1_code 64 = .ok (.return_, 1) := by decide +kernel
theorem d_8_21_0 : decode prog_8_method_21_code 0 = .ok (.aload_n 0, 1) := by decide +kernel
theorem d_8_21_1 : decode prog_8_method_21_code 1 = .ok (.invokevirtual 106, 3) := by decide +kernel
theorem d_8_21_4 : decode prog_8_method_21_code 4 = .ok (.iload_n 1, 1) := by decide +kernel
theorem d_8_21_5 : decode prog_8_method_21_code 5 = .ok (.if_icmp .ne 7, 3) := by decide +kernel
theorem d_8_21_12 : decode prog_8_method_21_code 12 = .ok (.iconst 0, 1) := by decide +kernel
theorem d_8_21_13 : decode prog_8_method_21_code 13 = .ok (.ireturn, 1) := by decide +kernel
theorem d_8_23_0 : decode prog_8_method_23_code 0 = .ok (.aload_n 0, 1) := by decide +kernel
theorem d_8_23_1 : decode prog_8_method_23_code 1 = .ok (.invokevirtual 106, 3) := by decide +kernel
theorem d_8_23_4 : decode prog_8_method_23_code 4 = .ok (.iload_n 1, 1) := by decide +kernel
theorem d_8_23_5 : decode prog_8_method_23_code 5 = .ok (.if_icmp .eq 5, 3) := by decide +kernel
theorem d_8_23_8 : decode prog_8_method_23_code 8 = .ok (.iconst 0, 1) := by decide +kernel
theorem d_8_23_9 : decode prog_8_method_23_code 9 = .ok (.ireturn, 1) := by decide +kernel
theorem d_8_24_0 : decode prog_8_method_24_code 0 = .ok (.aload_n 0, 1) := by decide +kernel
theorem d_8_24_1 : decode prog_8_method_24_code 1 = .ok (.invokevirtual 106, 3) := by decide +kernel
theorem d_8_24_4 : decode prog_8_method_24_code 4 = .ok (.iload_n 1, 1) := by decide +kernel
theorem d_8_24_5 : decode prog_8_method_24_code 5 = .ok (.if_icmp .ne 10, 3) := by decide +kernel
theorem d_8_24_15 : decode prog_8_method_24_code 15 = .ok (.aload_n 0, 1) := by decide +kernel
theorem d_8_24_16 : decode prog_8_method_24_code 16 = .ok (.invokevirtual 112, 3) := by decide +kernel
theorem d_8_24_19 : decode prog_8_method_24_code 19 = .ok (.return_, 1) := by decide +kernel
theorem d_8_25_0 : decode prog_8_method_25_code 0 = .ok (.aload_n 0, 1) := by decide +kernel
theorem d_8_25_1 : decode prog_8_method_25_code 1 = .ok (.getfield 35, 3) := by decide +kernel
theorem d_8_25_4 : decode prog_8_method_25_code 4 = .ok (.bipush (-2), 2) := by decide +kernel
theorem d_8_25_6 : decode prog_8_method_25_code 6 = .ok (.if_icmp .ne 27, 3) := by decide +kernel
theorem d_8_25_9 : decode prog_8_method_25_code 9 = .ok (.aload_n 0, 1) := by decide +kernel
theorem d_8_25_10 : decode prog_8_method_25_code 10 = .ok (.getfield 29, 3) := by decide +kernel
theorem d_8_25_13 : decode prog_8_method_25_code 13 = .ok (.aload_n 0, 1) := by decide +kernel
theorem d_8_25_14 : decode prog_8_method_25_code 14 = .ok (.getfield 25, 3) := by decide +kernel
theorem d_8_25_17 : decode prog_8_method_25_code 17 = .ok (.if_icmp .ge 16, 3) := by decide +kernel
theorem d_8_25_20 : decode prog_8_method_25_code 20 = .ok (.aload_n 0, 1) := by decide +kernel
theorem d_8_25_21 : decode prog_8_method_25_code 21 = .ok (.aload_n 0, 1) := by decide +kernel
theorem d_8_25_22 : decode prog_8_method_25_code 22 = .ok (.getfield 15, 3) := by decide +kernel
theorem d_8_25_25 : decode prog_8_method_25_code 25 = .ok (.aload_n 0, 1) := by decide +kernel
theorem d_8_25_26 : decode prog_8_method_25_code 26 = .ok (.getfield 29, 3) := by decide +kernel
theorem d_8_25_29 : decode prog_8_method_25_code 29 = .ok (.iaload, 1) := by decide +kernel
theorem d_8_25_30 : decode prog_8_method_25_code 30 = .ok (.putfield 35, 3) := by decide +kernel
theorem d_8_25_33 : decode prog_8_method_25_code 33 = .ok (.return_, 1) := by decide +kernel
theorem d_8_26_0 : decode prog_8_method_26_code 0 = .ok (.aload_n 0, 1) := by decide +kernel
theorem d_8_26_1 : decode prog_8_method_26_code 1 = .ok (.getfield 32, 3) := by decide +kernel
theorem d_8_26_4 : decode prog_8_method_26_code 4 = .ok (.bipush 20, 2) := by decide +kernel
theorem d_8_26_6 : decode prog_8_method_26_code 6 = .ok (.if_icmp .lt 7, 3) := by decide +kernel
theorem d_8_26_13 : decode prog_8_method_26_code 13 = .ok (.aload_n 0, 1) := by decide +kernel
theorem d_8_26_14 : decode prog_8_method_26_code 14 = .ok (.iload_n 1, 1) := by decide +kernel
theorem d_8_26_15 : decode prog_8_method_26_code 15 = .ok (.invokevirtual 115, 3) := by decide +kernel
theorem d_8_26_18 : decode prog_8_method_26_code 18 = .ok (.aload_n 0, 1) := by decide +kernel
theorem d_8_26_19 : decode prog_8_method_26_code 19 = .ok (.dup, 1) := by decide +kernel
theorem d_8_26_20 : decode prog_8_method_26_code 20 = .ok (.getfield 32, 3) := by decide +kernel
theorem d_8_26_23 : decode prog_8_method_26_code 23 = .ok (.iconst 1, 1) := by decide +kernel
theorem d_8_26_24 : decode prog_8_method_26_code 24 = .ok (.iadd, 1) := by decide +kernel
theorem d_8_26_25 : decode prog_8_method_26_code 25 = .ok (.putfield 32, 3) := by decide +kernel
theorem d_8_26_28 : decode prog_8_method_26_code 28 = .ok (.return_, 1) := by decide +kernel
theorem d_8_28_0 : decode prog_8_method_28_code 0 = .ok (.aload_n 0, 1) := by decide +kernel
theorem d_8_28_1 : decode prog_8_method_28_code 1 = .ok (.iload_n 1, 1) := by decide +kernel
theorem d_8_28_2 : decode prog_8_method_28_code 2 = .ok (.invokevirtual 115, 3) := by decide +kernel
theorem d_8_28_5 : decode prog_8_method_28_code 5 = .ok (.aload_n 0, 1) := by decide +kernel
theorem d_8_28_6 : decode prog_8_method_28_code 6 = .ok (.dup, 1) := by decide +kernel
theorem d_8_28_7 : decode prog_8_method_28_code 7 = .ok (.getfield 32, 3) := by decide +kernel
theorem d_8_28_10 : decode prog_8_method_28_code 10 = .ok (.iconst 1, 1) := by decide +kernel
theorem d_8_28_11 : decode prog_8_method_28_code 11 = .ok (.isub, 1) := by decide +kernel
theorem d_8_28_12 : decode prog_8_method_28_code 12 = .ok (.putfield 32, 3) := by decide +kernel
theorem d_8_28_15 : decode prog_8_method_28_code 15 = .ok (.return_, 1) := by decide +kernel
theorem d_8_2_0 : decode prog_8_method_2_code 0 = .ok (.iconst 1, 1) := by decide +kernel
theorem d_8_2_1 : decode prog_8_method_2_code 1 = .ok (.istore_n 1, 1) := by decide +kernel
theorem d_8_2_2 : decode prog_8_method_2_code 2 = .ok (.iconst 0, 1) := by decide +kernel
theorem d_8_2_3 : decode prog_8_method_2_code 3 = .ok (.istore_n 2, 1) := by decide +kernel
theorem d_8_2_4 : decode prog_8_method_2_code 4 = .ok (.iload_n 2, 1) := by decide +kernel
theorem d_8_2_5 : decode prog_8_method_2_code 5 = .ok (.ldc 41, 2) := by decide +kernel
theorem d_8_2_7 : decode prog_8_method_2_code 7 = .ok (.invokevirtual 43, 3) := by decide +kernel
theorem d_8_2_10 : decode prog_8_method_2_code 10 = .ok (.if_icmp .ge 50, 3) := by decide +kernel
theorem d_8_2_13 : decode prog_8_method_2_code 13 = .ok (.ldc 41, 2) := by decide +kernel
theorem d_8_2_15 : decode prog_8_method_2_code 15 = .ok (.iload_n 2, 1) := by decide +kernel
theorem d_8_2_16 : decode prog_8_method_2_code 16 = .ok (.invokevirtual 49, 3) := by decide +kernel
theorem d_8_2_19 : decode prog_8_method_2_code 19 = .ok (.istore_n 3, 1) := by decide +kernel
theorem d_8_2_20 : decode prog_8_method_2_code 20 = .ok (.iload_n 3, 1) := by decide +kernel
theorem d_8_2_21 : decode prog_8_method_2_code 21 = .ok (.bipush 32, 2) := by decide +kernel
theorem d_8_2_23 : decode prog_8_method_2_code 23 = .ok (.if_icmp .ne 9, 3) := by decide +kernel
theorem d_8_2_26 : decode prog_8_method_2_code 26 = .ok (.iinc 1 1, 3) := by decide +kernel
theorem d_8_2_29 : decode prog_8_method_2_code 29 = .ok (.goto 25, 3) := by decide +kernel
theorem d_8_2_32 : decode prog_8_method_2_code 32 = .ok (.iload_n 1, 1) := by decide +kernel
theorem d_8_2_33 : decode prog_8_method_2_code 33 = .ok (.bipush 26, 2) := by decide +kernel
theorem d_8_2_35 : decode prog_8_method_2_code 35 = .ok (.if_icmp .gt 19, 3) := by decide +kernel
theorem d_8_2_38 : decode prog_8_method_2_code 38 = .ok (.aload_n 0, 1) := by decide +kernel
theorem d_8_2_39 : decode prog_8_method_2_code 39 = .ok (.getfield 22, 3) := by decide +kernel
theorem d_8_2_42 : decode prog_8_method_2_code 42 = .ok (.iload_n 1, 1) := by decide +kernel
theorem d_8_2_43 : decode prog_8_method_2_code 43 = .ok (.aload_n 0, 1) := by decide +kernel
theorem d_8_2_44 : decode prog_8_method_2_code 44 = .ok (.getfield 22, 3) := by decide +kernel
theorem d_8_2_47 : decode prog_8_method_2_code 47 = .ok (.iload_n 1, 1) := by decide +kernel
theorem d_8_2_48 : decode prog_8_method_2_code 48 = .ok (.laload, 1) := by decide +kernel
theorem d_8_2_49 : decode prog_8_method_2_code 49 = .ok (.iload_n 3, 1) := by decide +kernel
theorem d_8_2_50 : decode prog_8_method_2_code 50 = .ok (.invokestatic 53, 3) := by decide +kernel
theorem d_8_2_53 : decode prog_8_method_2_code 53 = .ok (.lastore, 1) := by decide +kernel
theorem d_8_2_54 : decode prog_8_method_2_code 54 = .ok (.iinc 2 1, 3) := by decide +kernel
theorem d_8_2_57 : decode prog_8_method_2_code 57 = .ok (.goto (-53), 3) := by decide +kernel
theorem d_8_2_60 : decode prog_8_method_2_code 60 = .ok (.return_, 1) := by decide +kernel
theorem d_8_3_0 : decode prog_8_method_3_code 0 = .ok (.aload_n 0, 1) := by decide +kernel
theorem d_8_3_1 : decode prog_8_method_3_code 1 = .ok (.iconst 0, 1) := by decide +kernel
theorem d_8_3_2 : decode prog_8_method_3_code 2 = .ok (.putfield 25, 3) := by decide +kernel
theorem d_8_3_5 : decode prog_8_method_3_code 5 = .ok (.iconst 0, 1) := by decide +kernel
theorem d_8_3_6 : decode prog_8_method_3_code 6 = .ok (.istore_n 3, 1) := by decide +kernel
theorem d_8_3_7 : decode prog_8_method_3_code 7 = .ok (.iconst 0, 1) := by decide +kernel
theorem d_8_3_8 : decode prog_8_method_3_code 8 = .ok (.istore 4, 2) := by decide +kernel
theorem d_8_3_10 : decode prog_8_method_3_code 10 = .ok (.iload 4, 2) := by decide +kernel
theorem d_8_3_12 : decode prog_8_method_3_code 12 = .ok (.iload_n 2, 1) := by decide +kernel
theorem d_8_3_13 : decode prog_8_method_3_code 13 = .ok (.if_icmp .ge 22, 3) := by decide +kernel
theorem d_8_3_35 : decode prog_8_method_3_code 35 = .ok (.aload_n 0, 1) := by decide +kernel
theorem d_8_3_36 : decode prog_8_method_3_code 36 = .ok (.iconst 0, 1) := by decide +kernel
theorem d_8_3_37 : decode prog_8_method_3_code 37 = .ok (.iload_n 2, 1) := by decide +kernel
theorem d_8_3_38 : decode prog_8_method_3_code 38 = .ok (.lconst 0, 1) := by decide +kernel
theorem d_8_3_39 : decode prog_8_method_3_code 39 = .ok (.invokevirtual 61, 3) := by decide +kernel
theorem d_8_3_42 : decode prog_8_method_3_code 42 = .ok (.aload_n 0, 1) := by decide +kernel
theorem d_8_3_43 : decode prog_8_method_3_code 43 = .ok (.bipush (-2), 2) := by decide +kernel
theorem d_8_3_45 : decode prog_8_method_3_code 45 = .ok (.putfield 35, 3) := by decide +kernel
theorem d_8_3_48 : decode prog_8_method_3_code 48 = .ok (.aload_n 0, 1) := by decide +kernel
theorem d_8_3_49 : decode prog_8_method_3_code 49 = .ok (.invokevirtual 65, 3) := by decide +kernel
theorem d_8_3_52 : decode prog_8_method_3_code 52 = .ok (.return_, 1) := by decide +kernel
