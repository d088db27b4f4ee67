theorem d_6_1_65 : decode prog_6_method_1_code 65 = .ok (.iconst 0, 1) := by decide +kernel
theorem d_6_1_66 : decode prog_6_method_1_code 66 = .ok (.putfield 39, 3) := by decide +kernel
theorem d_6_1_69 : decode prog_6_method_1_code 69 = .ok (.aload_n 0, 1) := by decide +kernel
theorem d_6_1_70 : decode prog_6_method_1_code 70 = .ok (.iconst (-1), 1) := by decide +kernel
theorem d_6_1_71 : decode prog_6_method_1_code 71 = .ok (.putfield 42, 3) := by decide +kernel
theorem d_6_1_74 : decode prog_6_method_1_code 74 = .ok (.aload_n 0, 1) := by decide +kernel
theorem d_6_1_75 : decode prog_6_method_1_code 75 = .ok (.iconst (-1), 1) := by decide +kernel
theorem d_6_1_76 : decode prog_6_method_1_code 76 = .ok (.putfield 45, 3) := by decide +kernel
theorem d_6_1_79 : decode prog_6_method_1_code 79 = .ok (.aload_n 0, 1) := by decide +kernel
theorem d_6_1_80 : decode prog_6_method_1_code 80 = .ok (.sipush 3001, 3) := by decide +kernel
theorem d_6_1_83 : decode prog_6_method_1_code 83 = .ok (.putfield 48, 3) := by decide +kernel
theorem d_6_1_86 : decode prog_6_method_1_code 86 = .ok (.aload_n 0, 1) := by decide +kernel
theorem d_6_1_87 : decode prog_6_method_1_code 87 = .ok (.iconst 0, 1) := by decide +kernel
theorem d_6_1_88 : decode prog_6_method_1_code 88 = .ok (.putfield 51, 3) := by decide +kernel
theorem d_6_1_91 : decode prog_6_method_1_code 91 = .ok (.return_, 1) := by decide +kernel
theorem d_7_1_0 : decode prog_7_method_1_code 0 = .ok (.aload_n 0, 1) := by decide +kernel
theorem d_7_1_1 : decode prog_7_method_1_code 1 = .ok (.invokespecial 3, 3) := by decide +kernel
theorem d_7_1_4 : decode prog_7_method_1_code 4 = .ok (.aload_n 0, 1) := by decide +kernel
theorem d_7_1_5 : decode prog_7_method_1_code 5 = .ok (.sipush 1501, 3) := by decide +kernel
theorem d_7_1_8 : decode prog_7_method_1_code 8 = .ok (.newarray .long, 2) := by decide +kernel
theorem d_7_1_10 : decode prog_7_method_1_code 10 = .ok (.putfield 9, 3) := by decide +kernel
theorem d_7_1_13 : decode prog_7_method_1_code 13 = .ok (.aload_n 0, 1) := by decide +kernel
theorem d_7_1_14 : decode prog_7_method_1_code 14 = .ok (.sipush 1501, 3) := by decide +kernel
theorem d_7_1_17 : decode prog_7_method_1_code 17 = .ok (.newarray .int, 2) := by decide +kernel
theorem d_7_1_19 : decode prog_7_method_1_code 19 = .ok (.putfield 15, 3) := by decide +kernel
theorem d_7_1_22 : decode prog_7_method_1_code 22 = .ok (.aload_n 0, 1) := by decide +kernel
theorem d_7_1_23 : decode prog_7_method_1_code 23 = .ok (.sipush 1501, 3) := by decide +kernel
theorem d_7_1_26 : decode prog_7_method_1_code 26 = .ok (.newarray .int, 2) := by decide +kernel
theorem d_7_1_28 : decode prog_7_method_1_code 28 = .ok (.putfield 19, 3) := by decide +kernel
theorem d_7_1_31 : decode prog_7_method_1_code 31 = .ok (.aload_n 0, 1) := by decide +kernel
theorem d_7_1_32 : decode prog_7_method_1_code 32 = .ok (.sipush 1501, 3) := by decide +kernel
theorem d_7_1_35 : decode prog_7_method_1_code 35 = .ok (.newarray .int, 2) := by decide +kernel
theorem d_7_1_37 : decode prog_7_method_1_code 37 = .ok (.putfield 22, 3) := by decide +kernel
theorem d_7_1_40 : decode prog_7_method_1_code 40 = .ok (.aload_n 0, 1) := by decide +kernel
theorem d_7_1_41 : decode prog_7_method_1_code 41 = .ok (.sipush 1501, 3) := by decide +kernel
theorem d_7_1_44 : decode prog_7_method_1_code 44 = .ok (.newarray .int, 2) := by decide +kernel
theorem d_7_1_46 : decode prog_7_method_1_code 46 = .ok (.putfield 25, 3) := by decide +kernel
theorem d_7_1_49 : decode prog_7_method_1_code 49 = .ok (.aload_n 0, 1) := by decide +kernel
theorem d_7_1_50 : decode prog_7_method_1_code 50 = .ok (.sipush 1501, 3) := by decide +kernel
theorem d_7_1_53 : decode prog_7_method_1_code 53 = .ok (.newarray .int, 2) := by decide +kernel
theorem d_7_1_55 : decode prog_7_method_1_code 55 = .ok (.putfield 28, 3) := by decide +kernel
theorem d_7_1_58 : decode prog_7_method_1_code 58 = .ok (.aload_n 0, 1) := by decide +kernel
theorem d_7_1_59 : decode prog_7_method_1_code 59 = .ok (.sipush 1501, 3) := by decide +kernel
theorem d_7_1_62 : decode prog_7_method_1_code 62 = .ok (.newarray .int, 2) := by decide +kernel
theorem d_7_1_64 : decode prog_7_method_1_code 64 = .ok (.putfield 31, 3) := by decide +kernel
theorem d_7_1_67 : decode prog_7_method_1_code 67 = .ok (.aload_n 0, 1) := by decide +kernel
theorem d_7_1_68 : decode prog_7_method_1_code 68 = .ok (.sipush 1501, 3) := by decide +kernel
theorem d_7_1_71 : decode prog_7_method_1_code 71 = .ok (.newarray .int, 2) := by decide +kernel
theorem d_7_1_73 : decode prog_7_method_1_code 73 = .ok (.putfield 34, 3) := by decide +kernel
theorem d_7_1_76 : decode prog_7_method_1_code 76 = .ok (.aload_n 0, 1) := by decide +kernel
theorem d_7_1_77 : decode prog_7_method_1_code 77 = .ok (.sipush 1501, 3) := by decide +kernel
theorem d_7_1_80 : decode prog_7_method_1_code 80 = .ok (.newarray .int, 2) := by decide +kernel
theorem d_7_1_82 : decode prog_7_method_1_code 82 = .ok (.putfield 37, 3) := by decide +kernel
theorem d_7_1_85 : decode prog_7_method_1_code 85 = .ok (.aload_n 0, 1) := by decide +kernel
theorem d_7_1_86 : decode prog_7_method_1_code 86 = .ok (.sipush 1501, 3) := by decide +kernel
theorem d_7_1_89 : decode prog_7_method_1_code 89 = .ok (.newarray .boolean, 2) := by decide +kernel
theorem d_7_1_91 : decode prog_7_method_1_code 91 = .ok (.putfield 40, 3) := by decide +kernel
theorem d_7_1_94 : decode prog_7_method_1_code 94 = .ok (.aload_n 0, 1) := by decide +kernel
theorem d_7_1_95 : decode prog_7_method_1_code 95 = .ok (.iconst 0, 1) := by decide +kernel
theorem d_7_1_96 : decode prog_7_method_1_code 96 = .ok (.putfield 44, 3) := by decide +kernel
theorem d_7_1_99 : decode prog_7_method_1_code 99 = .ok (.return_, 1) := by decide +kernel
theorem d_8_10_0 : decode prog_8_method_10_code 0 = .ok (.iload_n 0, 1) := by decide +kernel
theorem d_8_10_1 : decode prog_8_method_10_code 1 = .ok (.bipush 97, 2) := by decide +kernel
theorem d_8_10_3 : decode prog_8_method_10_code 3 = .ok (.if_icmp .lt 13, 3) := by decide +kernel
theorem d_8_10_6 : decode prog_8_method_10_code 6 = .ok (.iload_n 0, 1) := by decide +kernel
theorem d_8_10_7 : decode prog_8_method_10_code 7 = .ok (.bipush 122, 2) := by decide +kernel
theorem d_8_10_9 : decode prog_8_method_10_code 9 = .ok (.if_icmp .gt 7, 3) := by decide +kernel
theorem d_8_10_12 : decode prog_8_method_10_code 12 = .ok (.iconst 1, 1) := by decide +kernel
theorem d_8_10_13 : decode prog_8_method_10_code 13 = .ok (.goto 4, 3) := by decide +kernel
theorem d_8_10_16 : decode prog_8_method_10_code 16 = .ok (.iconst 0, 1) := by decide +kernel
theorem d_8_10_17 : decode prog_8_method_10_code 17 = .ok (.ireturn, 1) := by decide +kernel
theorem d_8_13_0 : decode prog_8_method_13_code 0 = .ok (.lload_n 0, 1) := by decide +kernel
theorem d_8_13_1 : decode prog_8_method_13_code 1 = .ok (.ldc2_w 104, 3) := by decide +kernel
theorem d_8_13_4 : decode prog_8_method_13_code 4 = .ok (.lmul, 1) := by decide +kernel
theorem d_8_13_5 : decode prog_8_method_13_code 5 = .ok (.iload_n 2, 1) := by decide +kernel
theorem d_8_13_6 : decode prog_8_method_13_code 6 = .ok (.invokestatic 68, 3) := by decide +kernel
theorem d_8_13_9 : decode prog_8_method_13_code 9 = .ok (.ifCond .eq 12, 3) := by decide +kernel
theorem d_8_13_12 : decode prog_8_method_13_code 12 = .ok (.iload_n 2, 1) := by decide +kernel
theorem d_8_13_13 : decode prog_8_method_13_code 13 = .ok (.bipush 97, 2) := by decide +kernel
theorem d_8_13_15 : decode prog_8_method_13_code 15 = .ok (.isub, 1) := by decide +kernel
theorem d_8_13_16 : decode prog_8_method_13_code 16 = .ok (.iconst 1, 1) := by decide +kernel
theorem d_8_13_17 : decode prog_8_method_13_code 17 = .ok (.iadd, 1) := by decide +kernel
theorem d_8_13_18 : decode prog_8_method_13_code 18 = .ok (.goto 10, 3) := by decide +kernel
theorem d_8_13_21 : decode prog_8_method_13_code 21 = .ok (.iload_n 2, 1) := by decide +kernel
theorem d_8_13_22 : decode prog_8_method_13_code 22 = .ok (.bipush 48, 2) := by decide +kernel
theorem d_8_13_24 : decode prog_8_method_13_code 24 = .ok (.isub, 1) := by decide +kernel
theorem d_8_13_25 : decode prog_8_method_13_code 25 = .ok (.bipush 27, 2) := by decide +kernel
theorem d_8_13_27 : decode prog_8_method_13_code 27 = .ok (.iadd, 1) := by decide +kernel
theorem d_8_13_28 : decode prog_8_method_13_code 28 = .ok (.i2l, 1) := by decide +kernel
theorem d_8_13_29 : decode prog_8_method_13_code 29 = .ok (.ladd, 1) := by decide +kernel
theorem d_8_13_30 : decode prog_8_method_13_code 30 = .ok (.lreturn, 1) := by decide +kernel
theorem d_8_1_0 : decode prog_8_method_1_code 0 = .ok (.aload_n 0, 1) := by decide +kernel
theorem d_8_1_1 : decode prog_8_method_1_code 1 = .ok (.invokespecial 3, 3) := by decide +kernel
theorem d_8_1_4 : decode prog_8_method_1_code 4 = .ok (.aload_n 0, 1) := by decide +kernel
theorem d_8_1_5 : decode prog_8_method_1_code 5 = .ok (.sipush 3001, 3) := by decide +kernel
theorem d_8_1_8 : decode prog_8_method_1_code 8 = .ok (.newarray .int, 2) := by decide +kernel
theorem d_8_1_10 : decode prog_8_method_1_code 10 = .ok (.putfield 9, 3) := by decide +kernel
theorem d_8_1_13 : decode prog_8_method_1_code 13 = .ok (.aload_n 0, 1) := by decide +kernel
theorem d_8_1_14 : decode prog_8_method_1_code 14 = .ok (.sipush 3001, 3) := by decide +kernel
theorem d_8_1_17 : decode prog_8_method_1_code 17 = .ok (.newarray .int, 2) := by decide +kernel
theorem d_8_1_19 : decode prog_8_method_1_code 19 = .ok (.putfield 15, 3) := by decide +kernel
theorem d_8_1_22 : decode prog_8_method_1_code 22 = .ok (.aload_n 0, 1) := by decide +kernel
theorem d_8_1_23 : decode prog_8_method_1_code 23 = .ok (.sipush 3001, 3) := by decide +kernel
theorem d_8_1_26 : decode prog_8_method_1_code 26 = .ok (.newarray .long, 2) := by decide +kernel
theorem d_8_1_28 : decode prog_8_method_1_code 28 = .ok (.putfield 18, 3) := by decide +kernel
theorem d_8_1_31 : decode prog_8_method_1_code 31 = .ok (.aload_n 0, 1) := by decide +kernel
theorem d_8_1_32 : decode prog_8_method_1_code 32 = .ok (.bipush 27, 2) := by decide +kernel
theorem d_8_1_34 : decode prog_8_method_1_code 34 = .ok (.newarray .long, 2) := by decide +kernel
theorem d_8_1_36 : decode prog_8_method_1_code 36 = .ok (.putfield 22, 3) := by decide +kernel
theorem d_8_1_39 : decode prog_8_method_1_code 39 = .ok (.aload_n 0, 1) := by decide +kernel
theorem d_8_1_40 : decode prog_8_method_1_code 40 = .ok (.iconst 0, 1) := by decide +kernel
theorem d_8_1_41 : decode prog_8_method_1_code 41 = .ok (.putfield 25, 3) := by decide +kernel
theorem d_8_1_44 : decode prog_8_method_1_code 44 = .ok (.aload_n 0, 1) := by decide +kernel
theorem d_8_1_45 : decode prog_8_method_1_code 45 = .ok (.iconst 0, 1) := by decide +kernel
theorem d_8_1_46 : decode prog_8_method_1_code 46 = .ok (.putfield 29, 3) := by decide +kernel
theorem d_8_1_49 : decode prog_8_method_1_code 49 = .ok (.aload_n 0, 1) := by decide +kernel
theorem d_8_1_50 : decode prog_8_method_1_code 50 = .ok (.iconst 0, 1) := by decide +kernel
theorem d_8_1_51 : decode prog_8_method_1_code 51 = .ok (.putfield 32, 3) := by decide +kernel
theorem d_8_1_54 : decode prog_8_method_1_code 54 = .ok (.aload_n 0, 1) := by decide +kernel
theorem d_8_1_55 : decode prog_8_method_1_code 55 = .ok (.bipush (-2), 2) := by decide +kernel
theorem d_8_1_57 : decode prog_8_method_1_code 57 = .ok (.putfield 35, 3) := by decide +kernel
theorem d_8_1_60 : decode prog_8_method_1_code 60 = .ok (.aload_n 0, 1) := by decide +kernel
theorem d_8_1_61 : decode prog_8_method_1_code 61 = .ok (.invokevirtual 38, 3) := by decide +kernel
theorem d_8_1_64 : decode prog_8_method_1_code 64 = .ok (.return_, 1) := by decide +kernel
theorem d_8_2_0 : decode prog_8_method_2_code 0 = .ok (.iconst 1, 1) := by decide +kernel
theorem d_8_2_1 : decode prog_8_method_2_code 1 = .ok (.istore_n 1, 1) := by decide +kernel
theorem d_8_2_2 : decode prog_8_method_2_code 2 = .ok (.iconst 0, 1) := by decide +kernel
theorem d_8_2_3 : decode prog_8_method_2_code 3 = .ok (.istore_n 2, 1) := by decide +kernel
theorem d_8_2_4 : decode prog_8_method_2_code 4 = .ok (.iload_n 2, 1) := by decide +kernel
theorem d_8_2_5 : decode prog_8_method_2_code 5 = .ok (.ldc 41, 2) := by decide +kernel
theorem d_8_2_7 : decode prog_8_method_2_code 7 = .ok (.invokevirtual 43, 3) := by decide +kernel
theorem d_8_2_10 : decode prog_8_method_2_code 10 = .ok (.if_icmp .ge 50, 3) := by decide +kernel
theorem d_8_2_13 : decode prog_8_method_2_code 13 = .ok (.ldc 41, 2) := by decide +kernel
theorem d_8_2_15 : decode prog_8_method_2_code 15 = .ok (.iload_n 2, 1) := by decide +kernel
theorem d_8_2_16 : decode prog_8_method_2_code 16 = .ok (.invokevirtual 49, 3) := by decide +kernel
theorem d_8_2_19 : decode prog_8_method_2_code 19 = .ok (.istore_n 3, 1) := by decide +kernel
theorem d_8_2_20 : decode prog_8_method_2_code 20 = .ok (.iload_n 3, 1) := by decide +kernel
theorem d_8_2_21 : decode prog_8_method_2_code 21 = .ok (.bipush 32, 2) := by decide +kernel
theorem d_8_2_23 : decode prog_8_method_2_code 23 = .ok (.if_icmp .ne 9, 3) := by decide +kernel
theorem d_8_2_26 : decode prog_8_method_2_code 26 = .ok (.iinc 1 1, 3) := by decide +kernel
theorem d_8_2_29 : decode prog_8_method_2_code 29 = .ok (.goto 25, 3) := by decide +kernel
theorem d_8_2_32 : decode prog_8_method_2_code 32 = .ok (.iload_n 1, 1) := by decide +kernel
theorem d_8_2_33 : decode prog_8_method_2_code 33 = .ok (.bipush 26, 2) := by decide +kernel
theorem d_8_2_35 : decode prog_8_method_2_code 35 = .ok (.if_icmp .gt 19, 3) := by decide +kernel
theorem d_8_2_38 : decode prog_8_method_2_code 38 = .ok (.aload_n 0, 1) := by decide +kernel
theorem d_8_2_39 : decode prog_8_method_2_code 39 = .ok (.getfield 22, 3) := by decide +kernel
theorem d_8_2_42 : decode prog_8_method_2_code 42 = .ok (.iload_n 1, 1) := by decide +kernel
theorem d_8_2_43 : decode prog_8_method_2_code 43 = .ok (.aload_n 0, 1) := by decide +kernel
theorem d_8_2_44 : decode prog_8_method_2_code 44 = .ok (.getfield 22, 3) := by decide +kernel
theorem d_8_2_47 : decode prog_8_method_2_code 47 = .ok (.iload_n 1, 1) := by decide +kernel
theorem d_8_2_48 : decode prog_8_method_2_code 48 = .ok (.laload, 1) := by decide +kernel
theorem d_8_2_49 : decode prog_8_method_2_code 49 = .ok (.iload_n 3, 1) := by decide +kernel
theorem d_8_2_50 : decode prog_8_method_2_code 50 = .ok (.invokestatic 53, 3) := by decide +kernel
theorem d_8_2_53 : decode prog_8_method_2_code 53 = .ok (.lastore, 1) := by decide +kernel
theorem d_8_2_54 : decode prog_8_method_2_code 54 = .ok (.iinc 2 1, 3) := by decide +kernel
theorem d_8_2_57 : decode prog_8_method_2_code 57 = .ok (.goto (-53), 3) := by decide +kernel
theorem d_8_2_60 : decode prog_8_method_2_code 60 = .ok (.return_, 1) := by decide +kernel
