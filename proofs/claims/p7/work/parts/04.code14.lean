theorem d_15_5_27 : decode prog_15_method_5_code 27 = .ok (.athrow, 1) := by decide +kernel
theorem d_15_5_28 : decode prog_15_method_5_code 28 = .ok (.iload_n 1, 1) := by decide +kernel
theorem d_15_5_29 : decode prog_15_method_5_code 29 = .ok (.iconst 1, 1) := by decide +kernel
theorem d_15_5_30 : decode prog_15_method_5_code 30 = .ok (.ishl, 1) := by decide +kernel
theorem d_15_5_31 : decode prog_15_method_5_code 31 = .ok (.istore_n 1, 1) := by decide +kernel
theorem d_15_5_32 : decode prog_15_method_5_code 32 = .ok (.aload_n 0, 1) := by decide +kernel
theorem d_15_5_33 : decode prog_15_method_5_code 33 = .ok (.iload_n 1, 1) := by decide +kernel
theorem d_15_5_34 : decode prog_15_method_5_code 34 = .ok (.iinc 1 1, 3) := by decide +kernel
theorem d_15_5_37 : decode prog_15_method_5_code 37 = .ok (.baload, 1) := by decide +kernel
theorem d_15_5_38 : decode prog_15_method_5_code 38 = .ok (.sipush 255, 3) := by decide +kernel
theorem d_15_5_41 : decode prog_15_method_5_code 41 = .ok (.iand, 1) := by decide +kernel
theorem d_15_5_42 : decode prog_15_method_5_code 42 = .ok (.getstatic 59, 3) := by decide +kernel
theorem d_15_5_45 : decode prog_15_method_5_code 45 = .ok (.ishl, 1) := by decide +kernel
theorem d_15_5_46 : decode prog_15_method_5_code 46 = .ok (.aload_n 0, 1) := by decide +kernel
theorem d_15_5_47 : decode prog_15_method_5_code 47 = .ok (.iload_n 1, 1) := by decide +kernel
theorem d_15_5_48 : decode prog_15_method_5_code 48 = .ok (.baload, 1) := by decide +kernel
theorem d_15_5_49 : decode prog_15_method_5_code 49 = .ok (.sipush 255, 3) := by decide +kernel
theorem d_15_5_52 : decode prog_15_method_5_code 52 = .ok (.iand, 1) := by decide +kernel
theorem d_15_5_53 : decode prog_15_method_5_code 53 = .ok (.getstatic 63, 3) := by decide +kernel
theorem d_15_5_56 : decode prog_15_method_5_code 56 = .ok (.ishl, 1) := by decide +kernel
theorem d_15_5_57 : decode prog_15_method_5_code 57 = .ok (.ior, 1) := by decide +kernel
theorem d_15_5_58 : decode prog_15_method_5_code 58 = .ok (.i2c, 1) := by decide +kernel
theorem d_15_5_59 : decode prog_15_method_5_code 59 = .ok (.ireturn, 1) := by decide +kernel
theorem d_15_6_0 : decode prog_15_method_6_code 0 = .ok (.aload_n 0, 1) := by decide +kernel
theorem d_15_6_1 : decode prog_15_method_6_code 1 = .ok (.arraylength, 1) := by decide +kernel
theorem d_15_6_2 : decode prog_15_method_6_code 2 = .ok (.iconst 1, 1) := by decide +kernel
theorem d_15_6_3 : decode prog_15_method_6_code 3 = .ok (.ishr, 1) := by decide +kernel
theorem d_15_6_4 : decode prog_15_method_6_code 4 = .ok (.ireturn, 1) := by decide +kernel
theorem d_15_83_0 : decode prog_15_method_83_code 0 = .ok (.iload_n 1, 1) := by decide +kernel
theorem d_15_83_1 : decode prog_15_method_83_code 1 = .ok (.aload_n 0, 1) := by decide +kernel
theorem d_15_83_2 : decode prog_15_method_83_code 2 = .ok (.invokestatic 67, 3) := by decide +kernel
theorem d_15_83_5 : decode prog_15_method_83_code 5 = .ok (.aload_n 0, 1) := by decide +kernel
theorem d_15_83_6 : decode prog_15_method_83_code 6 = .ok (.iload_n 1, 1) := by decide +kernel
theorem d_15_83_7 : decode prog_15_method_83_code 7 = .ok (.invokestatic 71, 3) := by decide +kernel
theorem d_15_83_10 : decode prog_15_method_83_code 10 = .ok (.ireturn, 1) := by decide +kernel
theorem d_15_91_0 : decode prog_15_method_91_code 0 = .ok (.iload_n 0, 1) := by decide +kernel
theorem d_15_91_1 : decode prog_15_method_91_code 1 = .ok (.aload_n 1, 1) := by decide +kernel
theorem d_15_91_2 : decode prog_15_method_91_code 2 = .ok (.invokestatic 48, 3) := by decide +kernel
theorem d_15_91_5 : decode prog_15_method_91_code 5 = .ok (.invokestatic 414, 3) := by decide +kernel
theorem d_15_91_8 : decode prog_15_method_91_code 8 = .ok (.return_, 1) := by decide +kernel
theorem d_15_93_0 : decode prog_15_method_93_code 0 = .ok (.iload_n 0, 1) := by decide +kernel
theorem d_15_93_1 : decode prog_15_method_93_code 1 = .ok (.iload_n 1, 1) := by decide +kernel
theorem d_15_93_2 : decode prog_15_method_93_code 2 = .ok (.aload_n 2, 1) := by decide +kernel
theorem d_15_93_3 : decode prog_15_method_93_code 3 = .ok (.invokestatic 48, 3) := by decide +kernel
theorem d_15_93_6 : decode prog_15_method_93_code 6 = .ok (.invokestatic 241, 3) := by decide +kernel
theorem d_15_93_9 : decode prog_15_method_93_code 9 = .ok (.return_, 1) := by decide +kernel
theorem d_16_103_0 : decode prog_16_method_103_code 0 = .ok (.iconst 0, 1) := by decide +kernel
theorem d_16_103_1 : decode prog_16_method_103_code 1 = .ok (.istore_n 2, 1) := by decide +kernel
theorem d_16_103_2 : decode prog_16_method_103_code 2 = .ok (.aload_n 0, 1) := by decide +kernel
theorem d_16_103_3 : decode prog_16_method_103_code 3 = .ok (.arraylength, 1) := by decide +kernel
theorem d_16_103_4 : decode prog_16_method_103_code 4 = .ok (.istore_n 3, 1) := by decide +kernel
theorem d_16_103_5 : decode prog_16_method_103_code 5 = .ok (.iload_n 2, 1) := by decide +kernel
theorem d_16_103_6 : decode prog_16_method_103_code 6 = .ok (.iload_n 3, 1) := by decide +kernel
theorem d_16_103_7 : decode prog_16_method_103_code 7 = .ok (.if_icmp .ge 13, 3) := by decide +kernel
theorem d_16_103_10 : decode prog_16_method_103_code 10 = .ok (.aload_n 0, 1) := by decide +kernel
theorem d_16_103_11 : decode prog_16_method_103_code 11 = .ok (.iload_n 2, 1) := by decide +kernel
theorem d_16_103_12 : decode prog_16_method_103_code 12 = .ok (.iload_n 1, 1) := by decide +kernel
theorem d_16_103_13 : decode prog_16_method_103_code 13 = .ok (.iastore, 1) := by decide +kernel
theorem d_16_103_14 : decode prog_16_method_103_code 14 = .ok (.iinc 2 1, 3) := by decide +kernel
theorem d_16_103_17 : decode prog_16_method_103_code 17 = .ok (.goto (-12), 3) := by decide +kernel
theorem d_16_103_20 : decode prog_16_method_103_code 20 = .ok (.return_, 1) := by decide +kernel
theorem d_16_111_0 : decode prog_16_method_111_code 0 = .ok (.iconst 0, 1) := by decide +kernel
theorem d_16_111_1 : decode prog_16_method_111_code 1 = .ok (.istore_n 2, 1) := by decide +kernel
theorem d_16_111_2 : decode prog_16_method_111_code 2 = .ok (.aload_n 0, 1) := by decide +kernel
theorem d_16_111_3 : decode prog_16_method_111_code 3 = .ok (.arraylength, 1) := by decide +kernel
theorem d_16_111_4 : decode prog_16_method_111_code 4 = .ok (.istore_n 3, 1) := by decide +kernel
theorem d_16_111_5 : decode prog_16_method_111_code 5 = .ok (.iload_n 2, 1) := by decide +kernel
theorem d_16_111_6 : decode prog_16_method_111_code 6 = .ok (.iload_n 3, 1) := by decide +kernel
theorem d_16_111_7 : decode prog_16_method_111_code 7 = .ok (.if_icmp .ge 13, 3) := by decide +kernel
theorem d_16_111_10 : decode prog_16_method_111_code 10 = .ok (.aload_n 0, 1) := by decide +kernel
theorem d_16_111_11 : decode prog_16_method_111_code 11 = .ok (.iload_n 2, 1) := by decide +kernel
theorem d_16_111_12 : decode prog_16_method_111_code 12 = .ok (.iload_n 1, 1) := by decide +kernel
theorem d_16_111_13 : decode prog_16_method_111_code 13 = .ok (.bastore, 1) := by decide +kernel
theorem d_16_111_14 : decode prog_16_method_111_code 14 = .ok (.iinc 2 1, 3) := by decide +kernel
theorem d_16_111_17 : decode prog_16_method_111_code 17 = .ok (.goto (-12), 3) := by decide +kernel
theorem d_16_111_20 : decode prog_16_method_111_code 20 = .ok (.return_, 1) := by decide +kernel
theorem d_17_11_0 : decode prog_17_method_11_code 0 = .ok (.iload_n 0, 1) := by decide +kernel
theorem d_17_11_1 : decode prog_17_method_11_code 1 = .ok (.ifCond .lt 8, 3) := by decide +kernel
theorem d_17_11_4 : decode prog_17_method_11_code 4 = .ok (.iload_n 0, 1) := by decide +kernel
theorem d_17_11_5 : decode prog_17_method_11_code 5 = .ok (.iload_n 1, 1) := by decide +kernel
theorem d_17_11_6 : decode prog_17_method_11_code 6 = .ok (.if_icmp .lt 10, 3) := by decide +kernel
theorem d_17_11_9 : decode prog_17_method_11_code 9 = .ok (.aload_n 2, 1) := by decide +kernel
theorem d_17_11_10 : decode prog_17_method_11_code 10 = .ok (.iload_n 0, 1) := by decide +kernel
theorem d_17_11_11 : decode prog_17_method_11_code 11 = .ok (.iload_n 1, 1) := by decide +kernel
theorem d_17_11_12 : decode prog_17_method_11_code 12 = .ok (.invokestatic 95, 3) := by decide +kernel
theorem d_17_11_15 : decode prog_17_method_11_code 15 = .ok (.athrow, 1) := by decide +kernel
theorem d_17_11_16 : decode prog_17_method_11_code 16 = .ok (.iload_n 0, 1) := by decide +kernel
theorem d_17_11_17 : decode prog_17_method_11_code 17 = .ok (.ireturn, 1) := by decide +kernel
theorem d_17_12_0 : decode prog_17_method_12_code 0 = .ok (.iload_n 0, 1) := by decide +kernel
theorem d_17_12_1 : decode prog_17_method_12_code 1 = .ok (.ifCond .lt 13, 3) := by decide +kernel
theorem d_17_12_4 : decode prog_17_method_12_code 4 = .ok (.iload_n 0, 1) := by decide +kernel
theorem d_17_12_5 : decode prog_17_method_12_code 5 = .ok (.iload_n 1, 1) := by decide +kernel
theorem d_17_12_6 : decode prog_17_method_12_code 6 = .ok (.if_icmp .gt 8, 3) := by decide +kernel
theorem d_17_12_9 : decode prog_17_method_12_code 9 = .ok (.iload_n 1, 1) := by decide +kernel
theorem d_17_12_10 : decode prog_17_method_12_code 10 = .ok (.iload_n 2, 1) := by decide +kernel
theorem d_17_12_11 : decode prog_17_method_12_code 11 = .ok (.if_icmp .le 11, 3) := by decide +kernel
theorem d_17_12_14 : decode prog_17_method_12_code 14 = .ok (.aload_n 3, 1) := by decide +kernel
theorem d_17_12_15 : decode prog_17_method_12_code 15 = .ok (.iload_n 0, 1) := by decide +kernel
theorem d_17_12_16 : decode prog_17_method_12_code 16 = .ok (.iload_n 1, 1) := by decide +kernel
theorem d_17_12_17 : decode prog_17_method_12_code 17 = .ok (.iload_n 2, 1) := by decide +kernel
theorem d_17_12_18 : decode prog_17_method_12_code 18 = .ok (.invokestatic 99, 3) := by decide +kernel
theorem d_17_12_21 : decode prog_17_method_12_code 21 = .ok (.athrow, 1) := by decide +kernel
theorem d_17_12_22 : decode prog_17_method_12_code 22 = .ok (.iload_n 0, 1) := by decide +kernel
theorem d_17_12_23 : decode prog_17_method_12_code 23 = .ok (.ireturn, 1) := by decide +kernel
theorem d_1_1_0 : decode prog_1_method_1_code 0 = .ok (.aload_n 0, 1) := by decide +kernel
theorem d_1_1_1 : decode prog_1_method_1_code 1 = .ok (.invokespecial 3, 3) := by decide +kernel
theorem d_1_1_4 : decode prog_1_method_1_code 4 = .ok (.new 9, 3) := by decide +kernel
theorem d_1_1_7 : decode prog_1_method_1_code 7 = .ok (.dup, 1) := by decide +kernel
theorem d_1_1_8 : decode prog_1_method_1_code 8 = .ok (.invokespecial 11, 3) := by decide +kernel
theorem d_1_1_11 : decode prog_1_method_1_code 11 = .ok (.astore_n 1, 1) := by decide +kernel
theorem d_1_1_12 : decode prog_1_method_1_code 12 = .ok (.new 12, 3) := by decide +kernel
theorem d_1_1_15 : decode prog_1_method_1_code 15 = .ok (.dup, 1) := by decide +kernel
theorem d_1_1_16 : decode prog_1_method_1_code 16 = .ok (.invokespecial 14, 3) := by decide +kernel
theorem d_1_1_19 : decode prog_1_method_1_code 19 = .ok (.astore_n 2, 1) := by decide +kernel
theorem d_1_1_20 : decode prog_1_method_1_code 20 = .ok (.new 15, 3) := by decide +kernel
theorem d_1_1_23 : decode prog_1_method_1_code 23 = .ok (.dup, 1) := by decide +kernel
theorem d_1_1_24 : decode prog_1_method_1_code 24 = .ok (.aload_n 1, 1) := by decide +kernel
theorem d_1_1_25 : decode prog_1_method_1_code 25 = .ok (.aload_n 2, 1) := by decide +kernel
theorem d_1_1_26 : decode prog_1_method_1_code 26 = .ok (.invokespecial 17, 3) := by decide +kernel
theorem d_1_1_29 : decode prog_1_method_1_code 29 = .ok (.astore_n 3, 1) := by decide +kernel
theorem d_1_1_30 : decode prog_1_method_1_code 30 = .ok (.aload_n 0, 1) := by decide +kernel
theorem d_1_1_31 : decode prog_1_method_1_code 31 = .ok (.sipush 3000, 3) := by decide +kernel
theorem d_1_1_34 : decode prog_1_method_1_code 34 = .ok (.newarray .byte, 2) := by decide +kernel
theorem d_1_1_36 : decode prog_1_method_1_code 36 = .ok (.putfield 20, 3) := by decide +kernel
theorem d_1_1_39 : decode prog_1_method_1_code 39 = .ok (.aload_n 0, 1) := by decide +kernel
theorem d_1_1_40 : decode prog_1_method_1_code 40 = .ok (.aload_n 1, 1) := by decide +kernel
theorem d_1_1_41 : decode prog_1_method_1_code 41 = .ok (.putfield 24, 3) := by decide +kernel
theorem d_1_1_44 : decode prog_1_method_1_code 44 = .ok (.aload_n 0, 1) := by decide +kernel
theorem d_1_1_45 : decode prog_1_method_1_code 45 = .ok (.aload_n 2, 1) := by decide +kernel
theorem d_1_1_46 : decode prog_1_method_1_code 46 = .ok (.putfield 28, 3) := by decide +kernel
theorem d_1_1_49 : decode prog_1_method_1_code 49 = .ok (.aload_n 0, 1) := by decide +kernel
theorem d_1_1_50 : decode prog_1_method_1_code 50 = .ok (.aload_n 3, 1) := by decide +kernel
theorem d_1_1_51 : decode prog_1_method_1_code 51 = .ok (.putfield 32, 3) := by decide +kernel
theorem d_1_1_54 : decode prog_1_method_1_code 54 = .ok (.aload_n 0, 1) := by decide +kernel
theorem d_1_1_55 : decode prog_1_method_1_code 55 = .ok (.new 36, 3) := by decide +kernel
theorem d_1_1_58 : decode prog_1_method_1_code 58 = .ok (.dup, 1) := by decide +kernel
theorem d_1_1_59 : decode prog_1_method_1_code 59 = .ok (.aload_n 1, 1) := by decide +kernel
theorem d_1_1_60 : decode prog_1_method_1_code 60 = .ok (.aload_n 3, 1) := by decide +kernel
theorem d_1_1_61 : decode prog_1_method_1_code 61 = .ok (.new 38, 3) := by decide +kernel
theorem d_1_1_64 : decode prog_1_method_1_code 64 = .ok (.dup, 1) := by decide +kernel
theorem d_1_1_65 : decode prog_1_method_1_code 65 = .ok (.aload_n 2, 1) := by decide +kernel
theorem d_1_1_66 : decode prog_1_method_1_code 66 = .ok (.aload_n 3, 1) := by decide +kernel
theorem d_1_1_67 : decode prog_1_method_1_code 67 = .ok (.invokespecial 40, 3) := by decide +kernel
theorem d_1_1_70 : decode prog_1_method_1_code 70 = .ok (.invokespecial 43, 3) := by decide +kernel
theorem d_1_1_73 : decode prog_1_method_1_code 73 = .ok (.putfield 46, 3) := by decide +kernel
theorem d_1_1_76 : decode prog_1_method_1_code 76 = .ok (.aload_n 0, 1) := by decide +kernel
theorem d_1_1_77 : decode prog_1_method_1_code 77 = .ok (.new 50, 3) := by decide +kernel
theorem d_1_1_80 : decode prog_1_method_1_code 80 = .ok (.dup, 1) := by decide +kernel
theorem d_1_1_81 : decode prog_1_method_1_code 81 = .ok (.invokespecial 52, 3) := by decide +kernel
theorem d_1_1_84 : decode prog_1_method_1_code 84 = .ok (.putfield 53, 3) := by decide +kernel
theorem d_1_1_87 : decode prog_1_method_1_code 87 = .ok (.aload_n 0, 1) := by decide +kernel
theorem d_1_1_88 : decode prog_1_method_1_code 88 = .ok (.iconst 0, 1) := by decide +kernel
theorem d_1_1_89 : decode prog_1_method_1_code 89 = .ok (.putfield 57, 3) := by decide +kernel
theorem d_1_1_92 : decode prog_1_method_1_code 92 = .ok (.return_, 1) := by decide +kernel
theorem d_1_2_0 : decode prog_1_method_2_code 0 = .ok (.aload_n 0, 1) := by decide +kernel
theorem d_1_2_1 : decode prog_1_method_2_code 1 = .ok (.getfield 57, 3) := by decide +kernel
theorem d_1_2_4 : decode prog_1_method_2_code 4 = .ok (.bipush 20, 2) := by decide +kernel
theorem d_1_2_6 : decode prog_1_method_2_code 6 = .ok (.iadd, 1) := by decide +kernel
theorem d_1_2_7 : decode prog_1_method_2_code 7 = .ok (.sipush 3000, 3) := by decide +kernel
theorem d_1_2_10 : decode prog_1_method_2_code 10 = .ok (.if_icmp .le 6, 3) := by decide +kernel
theorem d_1_2_13 : decode prog_1_method_2_code 13 = .ok (.bipush (-3), 2) := by decide +kernel
theorem d_1_2_15 : decode prog_1_method_2_code 15 = .ok (.ireturn, 1) := by decide +kernel
theorem d_1_2_16 : decode prog_1_method_2_code 16 = .ok (.aload_n 0, 1) := by decide +kernel
theorem d_1_2_17 : decode prog_1_method_2_code 17 = .ok (.iload_n 1, 1) := by decide +kernel
theorem d_1_2_18 : decode prog_1_method_2_code 18 = .ok (.invokevirtual 61, 3) := by decide +kernel
theorem d_1_2_21 : decode prog_1_method_2_code 21 = .ok (.aload_n 0, 1) := by decide +kernel
theorem d_1_2_22 : decode prog_1_method_2_code 22 = .ok (.iload_n 2, 1) := by decide +kernel
theorem d_1_2_23 : decode prog_1_method_2_code 23 = .ok (.invokevirtual 61, 3) := by decide +kernel
theorem d_1_2_26 : decode prog_1_method_2_code 26 = .ok (.aload_n 0, 1) := by decide +kernel
theorem d_1_2_27 : decode prog_1_method_2_code 27 = .ok (.iload_n 3, 1) := by decide +kernel
theorem d_1_2_28 : decode prog_1_method_2_code 28 = .ok (.invokevirtual 61, 3) := by decide +kernel
theorem d_1_2_31 : decode prog_1_method_2_code 31 = .ok (.aload_n 0, 1) := by decide +kernel
theorem d_1_2_32 : decode prog_1_method_2_code 32 = .ok (.iload 4, 2) := by decide +kernel
theorem d_1_2_34 : decode prog_1_method_2_code 34 = .ok (.invokevirtual 61, 3) := by decide +kernel
theorem d_1_2_37 : decode prog_1_method_2_code 37 = .ok (.aload_n 0, 1) := by decide +kernel
theorem d_1_2_38 : decode prog_1_method_2_code 38 = .ok (.iload 5, 2) := by decide +kernel
theorem d_1_2_40 : decode prog_1_method_2_code 40 = .ok (.invokevirtual 61, 3) := by decide +kernel
theorem d_1_2_43 : decode prog_1_method_2_code 43 = .ok (.aload_n 0, 1) := by decide +kernel
theorem d_1_2_44 : decode prog_1_method_2_code 44 = .ok (.getfield 57, 3) := by decide +kernel
theorem d_1_2_47 : decode prog_1_method_2_code 47 = .ok (.ireturn, 1) := by decide +kernel
theorem d_1_3_0 : decode prog_1_method_3_code 0 = .ok (.iload_n 1, 1) := by decide +kernel
theorem d_1_3_1 : decode prog_1_method_3_code 1 = .ok (.ifCond .lt 11, 3) := by decide +kernel
theorem d_1_3_4 : decode prog_1_method_3_code 4 = .ok (.iload_n 1, 1) := by decide +kernel
theorem d_1_3_5 : decode prog_1_method_3_code 5 = .ok (.aload_n 0, 1) := by decide +kernel
theorem d_1_3_6 : decode prog_1_method_3_code 6 = .ok (.getfield 57, 3) := by decide +kernel
theorem d_1_3_9 : decode prog_1_method_3_code 9 = .ok (.if_icmp .le 5, 3) := by decide +kernel
theorem d_1_3_12 : decode prog_1_method_3_code 12 = .ok (.iconst (-1), 1) := by decide +kernel
theorem d_1_3_13 : decode prog_1_method_3_code 13 = .ok (.ireturn, 1) := by decide +kernel
theorem d_1_3_14 : decode prog_1_method_3_code 14 = .ok (.aload_n 0, 1) := by decide +kernel
theorem d_1_3_15 : decode prog_1_method_3_code 15 = .ok (.iload_n 1, 1) := by decide +kernel
theorem d_1_3_16 : decode prog_1_method_3_code 16 = .ok (.putfield 57, 3) := by decide +kernel
theorem d_1_3_19 : decode prog_1_method_3_code 19 = .ok (.iload_n 1, 1) := by decide +kernel
theorem d_1_3_20 : decode prog_1_method_3_code 20 = .ok (.ireturn, 1) := by decide +kernel
theorem d_1_4_0 : decode prog_1_method_4_code 0 = .ok (.aload_n 0, 1) := by decide +kernel
theorem d_1_4_1 : decode prog_1_method_4_code 1 = .ok (.getfield 24, 3) := by decide +kernel
theorem d_1_4_4 : decode prog_1_method_4_code 4 = .ok (.aload_n 0, 1) := by decide +kernel
theorem d_1_4_5 : decode prog_1_method_4_code 5 = .ok (.getfield 20, 3) := by decide +kernel
theorem d_1_4_8 : decode prog_1_method_4_code 8 = .ok (.aload_n 0, 1) := by decide +kernel
theorem d_1_4_9 : decode prog_1_method_4_code 9 = .ok (.getfield 57, 3) := by decide +kernel
theorem d_1_4_12 : decode prog_1_method_4_code 12 = .ok (.invokevirtual 65, 3) := by decide +kernel
theorem d_1_4_15 : decode prog_1_method_4_code 15 = .ok (.aload_n 0, 1) := by decide +kernel
theorem d_1_4_16 : decode prog_1_method_4_code 16 = .ok (.iconst 0, 1) := by decide +kernel
theorem d_1_4_17 : decode prog_1_method_4_code 17 = .ok (.putfield 57, 3) := by decide +kernel
theorem d_1_4_20 : decode prog_1_method_4_code 20 = .ok (.aload_n 0, 1) := by decide +kernel
theorem d_1_4_21 : decode prog_1_method_4_code 21 = .ok (.getfield 32, 3) := by decide +kernel
theorem d_1_4_24 : decode prog_1_method_4_code 24 = .ok (.invokevirtual 69, 3) := by decide +kernel
theorem d_1_4_27 : decode prog_1_method_4_code 27 = .ok (.aload_n 0, 1) := by decide +kernel
theorem d_1_4_28 : decode prog_1_method_4_code 28 = .ok (.getfield 46, 3) := by decide +kernel
theorem d_1_4_31 : decode prog_1_method_4_code 31 = .ok (.invokevirtual 72, 3) := by decide +kernel
theorem d_1_4_34 : decode prog_1_method_4_code 34 = .ok (.aload_n 0, 1) := by decide +kernel
theorem d_1_4_35 : decode prog_1_method_4_code 35 = .ok (.getfield 24, 3) := by decide +kernel
theorem d_1_4_38 : decode prog_1_method_4_code 38 = .ok (.invokevirtual 75, 3) := by decide +kernel
theorem d_1_4_41 : decode prog_1_method_4_code 41 = .ok (.bipush (-2), 2) := by decide +kernel
theorem d_1_4_43 : decode prog_1_method_4_code 43 = .ok (.if_icmp .eq 11, 3) := by decide +kernel
theorem d_1_4_46 : decode prog_1_method_4_code 46 = .ok (.aload_n 0, 1) := by decide +kernel
theorem d_1_4_47 : decode prog_1_method_4_code 47 = .ok (.getfield 24, 3) := by decide +kernel
theorem d_1_4_50 : decode prog_1_method_4_code 50 = .ok (.invokevirtual 75, 3) := by decide +kernel
theorem d_1_4_53 : decode prog_1_method_4_code 53 = .ok (.ireturn, 1) := by decide +kernel
theorem d_1_4_54 : decode prog_1_method_4_code 54 = .ok (.aload_n 0, 1) := by decide +kernel
theorem d_1_4_55 : decode prog_1_method_4_code 55 = .ok (.getfield 32, 3) := by decide +kernel
theorem d_1_4_58 : decode prog_1_method_4_code 58 = .ok (.invokevirtual 79, 3) := by decide +kernel
theorem d_1_4_61 : decode prog_1_method_4_code 61 = .ok (.aload_n 0, 1) := by decide +kernel
theorem d_1_4_62 : decode prog_1_method_4_code 62 = .ok (.getfield 46, 3) := by decide +kernel
theorem d_1_4_65 : decode prog_1_method_4_code 65 = .ok (.invokevirtual 72, 3) := by decide +kernel
theorem d_1_4_68 : decode prog_1_method_4_code 68 = .ok (.aload_n 0, 1) := by decide +kernel
theorem d_1_4_69 : decode prog_1_method_4_code 69 = .ok (.getfield 32, 3) := by decide +kernel
theorem d_1_4_72 : decode prog_1_method_4_code 72 = .ok (.invokevirtual 82, 3) := by decide +kernel
theorem d_1_4_75 : decode prog_1_method_4_code 75 = .ok (.bipush (-2), 2) := by decide +kernel
theorem d_1_4_77 : decode prog_1_method_4_code 77 = .ok (.if_icmp .eq 11, 3) := by decide +kernel
theorem d_1_4_80 : decode prog_1_method_4_code 80 = .ok (.aload_n 0, 1) := by decide +kernel
theorem d_1_4_81 : decode prog_1_method_4_code 81 = .ok (.getfield 32, 3) := by decide +kernel
theorem d_1_4_84 : decode prog_1_method_4_code 84 = .ok (.invokevirtual 82, 3) := by decide +kernel
theorem d_1_4_87 : decode prog_1_method_4_code 87 = .ok (.ireturn, 1) := by decide +kernel
theorem d_1_4_88 : decode prog_1_method_4_code 88 = .ok (.aload_n 0, 1) := by decide +kernel
theorem d_1_4_89 : decode prog_1_method_4_code 89 = .ok (.getfield 53, 3) := by decide +kernel
theorem d_1_4_92 : decode prog_1_method_4_code 92 = .ok (.aload_n 0, 1) := by decide +kernel
theorem d_1_4_93 : decode prog_1_method_4_code 93 = .ok (.getfield 28, 3) := by decide +kernel
theorem d_1_4_96 : decode prog_1_method_4_code 96 = .ok (.aload_n 0, 1) := by decide +kernel
theorem d_1_4_97 : decode prog_1_method_4_code 97 = .ok (.getfield 32, 3) := by decide +kernel
theorem d_1_4_100 : decode prog_1_method_4_code 100 = .ok (.invokevirtual 85, 3) := by decide +kernel
theorem d_1_4_103 : decode prog_1_method_4_code 103 = .ok (.bipush (-2), 2) := by decide +kernel
theorem d_1_4_105 : decode prog_1_method_4_code 105 = .ok (.ireturn, 1) := by decide +kernel
theorem d_1_5_0 : decode prog_1_method_5_code 0 = .ok (.aload_n 0, 1) := by decide +kernel
theorem d_1_5_1 : decode prog_1_method_5_code 1 = .ok (.getfield 53, 3) := by decide +kernel
theorem d_1_5_4 : decode prog_1_method_5_code 4 = .ok (.invokevirtual 88, 3) := by decide +kernel
theorem d_1_5_7 : decode prog_1_method_5_code 7 = .ok (.ireturn, 1) := by decide +kernel
theorem d_1_6_0 : decode prog_1_method_6_code 0 = .ok (.iload_n 2, 1) := by decide +kernel
theorem d_1_6_1 : decode prog_1_method_6_code 1 = .ok (.ifCond .lt 8, 3) := by decide +kernel
theorem d_1_6_4 : decode prog_1_method_6_code 4 = .ok (.iload_n 2, 1) := by decide +kernel
theorem d_1_6_5 : decode prog_1_method_6_code 5 = .ok (.iconst 4, 1) := by decide +kernel
theorem d_1_6_6 : decode prog_1_method_6_code 6 = .ok (.if_icmp .le 5, 3) := by decide +kernel
theorem d_1_6_9 : decode prog_1_method_6_code 9 = .ok (.iconst (-1), 1) := by decide +kernel
theorem d_1_6_10 : decode prog_1_method_6_code 10 = .ok (.ireturn, 1) := by decide +kernel
theorem d_1_6_11 : decode prog_1_method_6_code 11 = .ok (.aload_n 0, 1) := by decide +kernel
theorem d_1_6_12 : decode prog_1_method_6_code 12 = .ok (.getfield 53, 3) := by decide +kernel
theorem d_1_6_15 : decode prog_1_method_6_code 15 = .ok (.iload_n 1, 1) := by decide +kernel
theorem d_1_6_16 : decode prog_1_method_6_code 16 = .ok (.iload_n 2, 1) := by decide +kernel
theorem d_1_6_17 : decode prog_1_method_6_code 17 = .ok (.invokevirtual 91, 3) := by decide +kernel
theorem d_1_6_20 : decode prog_1_method_6_code 20 = .ok (.ireturn, 1) := by decide +kernel
theorem d_1_7_0 : decode prog_1_method_7_code 0 = .ok (.aload_n 0, 1) := by decide +kernel
theorem d_1_7_1 : decode prog_1_method_7_code 1 = .ok (.getfield 53, 3) := by decide +kernel
theorem d_1_7_4 : decode prog_1_method_7_code 4 = .ok (.iload_n 1, 1) := by decide +kernel
theorem d_1_7_5 : decode prog_1_method_7_code 5 = .ok (.invokevirtual 95, 3) := by decide +kernel
theorem d_1_7_8 : decode prog_1_method_7_code 8 = .ok (.ireturn, 1) := by decide +kernel
theorem d_1_8_0 : decode prog_1_method_8_code 0 = .ok (.bipush 24, 2) := by decide +kernel
theorem d_1_8_2 : decode prog_1_method_8_code 2 = .ok (.istore_n 2, 1) := by decide +kernel
theorem d_1_8_3 : decode prog_1_method_8_code 3 = .ok (.iload_n 2, 1) := by decide +kernel
theorem d_1_8_4 : decode prog_1_method_8_code 4 = .ok (.ifCond .lt 42, 3) := by decide +kernel
theorem d_1_8_7 : decode prog_1_method_8_code 7 = .ok (.aload_n 0, 1) := by decide +kernel
theorem d_1_8_8 : decode prog_1_method_8_code 8 = .ok (.getfield 57, 3) := by decide +kernel
theorem d_1_8_11 : decode prog_1_method_8_code 11 = .ok (.sipush 3000, 3) := by decide +kernel
theorem d_1_8_14 : decode prog_1_method_8_code 14 = .ok (.if_icmp .ge 26, 3) := by decide +kernel
theorem d_1_8_17 : decode prog_1_method_8_code 17 = .ok (.aload_n 0, 1) := by decide +kernel
theorem d_1_8_18 : decode prog_1_method_8_code 18 = .ok (.getfield 20, 3) := by decide +kernel
theorem d_1_8_21 : decode prog_1_method_8_code 21 = .ok (.aload_n 0, 1) := by decide +kernel
theorem d_1_8_22 : decode prog_1_method_8_code 22 = .ok (.getfield 57, 3) := by decide +kernel
theorem d_1_8_25 : decode prog_1_method_8_code 25 = .ok (.iload_n 1, 1) := by decide +kernel
theorem d_1_8_26 : decode prog_1_method_8_code 26 = .ok (.iload_n 2, 1) := by decide +kernel
theorem d_1_8_27 : decode prog_1_method_8_code 27 = .ok (.ishr, 1) := by decide +kernel
theorem d_1_8_28 : decode prog_1_method_8_code 28 = .ok (.i2b, 1) := by decide +kernel
theorem d_1_8_29 : decode prog_1_method_8_code 29 = .ok (.bastore, 1) := by decide +kernel
theorem d_1_8_30 : decode prog_1_method_8_code 30 = .ok (.aload_n 0, 1) := by decide +kernel
theorem d_1_8_31 : decode prog_1_method_8_code 31 = .ok (.dup, 1) := by decide +kernel
theorem d_1_8_32 : decode prog_1_method_8_code 32 = .ok (.getfield 57, 3) := by decide +kernel
theorem d_1_8_35 : decode prog_1_method_8_code 35 = .ok (.iconst 1, 1) := by decide +kernel
theorem d_1_8_36 : decode prog_1_method_8_code 36 = .ok (.iadd, 1) := by decide +kernel
theorem d_1_8_37 : decode prog_1_method_8_code 37 = .ok (.putfield 57, 3) := by decide +kernel
theorem d_1_8_40 : decode prog_1_method_8_code 40 = .ok (.iinc 2 (-8), 3) := by decide +kernel
theorem d_1_8_43 : decode prog_1_method_8_code 43 = .ok (.goto (-40), 3) := by decide +kernel
theorem d_1_8_46 : decode prog_1_method_8_code 46 = .ok (.return_, 1) := by decide +kernel
theorem d_2_10_0 : decode prog_2_method_10_code 0 = .ok (.aload_n 0, 1) := by decide +kernel
theorem d_2_10_1 : decode prog_2_method_10_code 1 = .ok (.getfield 32, 3) := by decide +kernel
theorem d_2_10_4 : decode prog_2_method_10_code 4 = .ok (.bipush 60, 2) := by decide +kernel
theorem d_2_10_6 : decode prog_2_method_10_code 6 = .ok (.if_icmp .lt 10, 3) := by decide +kernel
theorem d_2_10_9 : decode prog_2_method_10_code 9 = .ok (.aload_n 0, 1) := by decide +kernel
theorem d_2_10_10 : decode prog_2_method_10_code 10 = .ok (.getfield 9, 3) := by decide +kernel
theorem d_2_10_13 : decode prog_2_method_10_code 13 = .ok (.invokevirtual 48, 3) := by decide +kernel
theorem d_2_10_16 : decode prog_2_method_10_code 16 = .ok (.aload_n 0, 1) := by decide +kernel
theorem d_2_10_17 : decode prog_2_method_10_code 17 = .ok (.dup, 1) := by decide +kernel
theorem d_2_10_18 : decode prog_2_method_10_code 18 = .ok (.getfield 32, 3) := by decide +kernel
theorem d_2_10_21 : decode prog_2_method_10_code 21 = .ok (.iconst 1, 1) := by decide +kernel
theorem d_2_10_22 : decode prog_2_method_10_code 22 = .ok (.iadd, 1) := by decide +kernel
theorem d_2_10_23 : decode prog_2_method_10_code 23 = .ok (.putfield 32, 3) := by decide +kernel
theorem d_2_10_26 : decode prog_2_method_10_code 26 = .ok (.aload_n 0, 1) := by decide +kernel
theorem d_2_10_27 : decode prog_2_method_10_code 27 = .ok (.getfield 15, 3) := by decide +kernel
theorem d_2_10_30 : decode prog_2_method_10_code 30 = .ok (.iload_n 1, 1) := by decide +kernel
theorem d_2_10_31 : decode prog_2_method_10_code 31 = .ok (.iload_n 2, 1) := by decide +kernel
theorem d_2_10_32 : decode prog_2_method_10_code 32 = .ok (.invokevirtual 112, 3) := by decide +kernel
theorem d_2_10_35 : decode prog_2_method_10_code 35 = .ok (.ireturn, 1) := by decide +kernel
theorem d_2_11_0 : decode prog_2_method_11_code 0 = .ok (.aload_n 0, 1) := by decide +kernel
theorem d_2_11_1 : decode prog_2_method_11_code 1 = .ok (.iconst 2, 1) := by decide +kernel
theorem d_2_11_2 : decode prog_2_method_11_code 2 = .ok (.iload_n 1, 1) := by decide +kernel
theorem d_2_11_3 : decode prog_2_method_11_code 3 = .ok (.invokevirtual 105, 3) := by decide +kernel
theorem d_2_11_6 : decode prog_2_method_11_code 6 = .ok (.istore_n 2, 1) := by decide +kernel
theorem d_2_11_7 : decode prog_2_method_11_code 7 = .ok (.iconst 0, 1) := by decide +kernel
theorem d_2_11_8 : decode prog_2_method_11_code 8 = .ok (.istore_n 3, 1) := by decide +kernel
theorem d_2_11_9 : decode prog_2_method_11_code 9 = .ok (.iload_n 3, 1) := by decide +kernel
theorem d_2_11_10 : decode prog_2_method_11_code 10 = .ok (.sipush 3001, 3) := by decide +kernel
theorem d_2_11_13 : decode prog_2_method_11_code 13 = .ok (.if_icmp .ge 28, 3) := by decide +kernel
theorem d_2_11_16 : decode prog_2_method_11_code 16 = .ok (.aload_n 0, 1) := by decide +kernel
theorem d_2_11_17 : decode prog_2_method_11_code 17 = .ok (.getfield 9, 3) := by decide +kernel
theorem d_2_11_20 : decode prog_2_method_11_code 20 = .ok (.bipush 38, 2) := by decide +kernel
theorem d_2_11_22 : decode prog_2_method_11_code 22 = .ok (.invokevirtual 73, 3) := by decide +kernel
theorem d_2_11_25 : decode prog_2_method_11_code 25 = .ok (.ifCond .eq 16, 3) := by decide +kernel
theorem d_2_11_28 : decode prog_2_method_11_code 28 = .ok (.aload_n 0, 1) := by decide +kernel
theorem d_2_11_29 : decode prog_2_method_11_code 29 = .ok (.iconst 2, 1) := by decide +kernel
theorem d_2_11_30 : decode prog_2_method_11_code 30 = .ok (.iload_n 1, 1) := by decide +kernel
theorem d_2_11_31 : decode prog_2_method_11_code 31 = .ok (.invokevirtual 105, 3) := by decide +kernel
theorem d_2_11_34 : decode prog_2_method_11_code 34 = .ok (.pop, 1) := by decide +kernel
theorem d_2_11_35 : decode prog_2_method_11_code 35 = .ok (.iinc 3 1, 3) := by decide +kernel
theorem d_2_11_38 : decode prog_2_method_11_code 38 = .ok (.goto (-29), 3) := by decide +kernel
theorem d_2_11_41 : decode prog_2_method_11_code 41 = .ok (.aload_n 0, 1) := by decide +kernel
theorem d_2_11_42 : decode prog_2_method_11_code 42 = .ok (.getfield 9, 3) := by decide +kernel
theorem d_2_11_45 : decode prog_2_method_11_code 45 = .ok (.bipush 36, 2) := by decide +kernel
theorem d_2_11_47 : decode prog_2_method_11_code 47 = .ok (.invokevirtual 67, 3) := by decide +kernel
theorem d_2_11_50 : decode prog_2_method_11_code 50 = .ok (.aload_n 0, 1) := by decide +kernel
theorem d_2_11_51 : decode prog_2_method_11_code 51 = .ok (.getfield 15, 3) := by decide +kernel
theorem d_2_11_54 : decode prog_2_method_11_code 54 = .ok (.invokevirtual 115, 3) := by decide +kernel
theorem d_2_11_57 : decode prog_2_method_11_code 57 = .ok (.iconst 0, 1) := by decide +kernel
theorem d_2_11_58 : decode prog_2_method_11_code 58 = .ok (.istore_n 3, 1) := by decide +kernel
theorem d_2_11_59 : decode prog_2_method_11_code 59 = .ok (.iconst 0, 1) := by decide +kernel
theorem d_2_11_60 : decode prog_2_method_11_code 60 = .ok (.istore 4, 2) := by decide +kernel
theorem d_2_11_62 : decode prog_2_method_11_code 62 = .ok (.iload 4, 2) := by decide +kernel
theorem d_2_11_64 : decode prog_2_method_11_code 64 = .ok (.iconst 2, 1) := by decide +kernel
theorem d_2_11_65 : decode prog_2_method_11_code 65 = .ok (.if_icmp .ge 56, 3) := by decide +kernel
theorem d_2_11_68 : decode prog_2_method_11_code 68 = .ok (.iload 4, 2) := by decide +kernel
theorem d_2_11_70 : decode prog_2_method_11_code 70 = .ok (.ifCond .eq 15, 3) := by decide +kernel
theorem d_2_11_73 : decode prog_2_method_11_code 73 = .ok (.aload_n 0, 1) := by decide +kernel
theorem d_2_11_74 : decode prog_2_method_11_code 74 = .ok (.getfield 9, 3) := by decide +kernel
theorem d_2_11_77 : decode prog_2_method_11_code 77 = .ok (.bipush 38, 2) := by decide +kernel
theorem d_2_11_79 : decode prog_2_method_11_code 79 = .ok (.invokevirtual 73, 3) := by decide +kernel
theorem d_2_11_82 : decode prog_2_method_11_code 82 = .ok (.ifCond .eq 39, 3) := by decide +kernel
theorem d_2_11_85 : decode prog_2_method_11_code 85 = .ok (.aload_n 0, 1) := by decide +kernel
theorem d_2_11_86 : decode prog_2_method_11_code 86 = .ok (.getfield 28, 3) := by decide +kernel
theorem d_2_11_89 : decode prog_2_method_11_code 89 = .ok (.iconst 1, 1) := by decide +kernel
theorem d_2_11_90 : decode prog_2_method_11_code 90 = .ok (.invokevirtual 118, 3) := by decide +kernel
theorem d_2_11_93 : decode prog_2_method_11_code 93 = .ok (.pop, 1) := by decide +kernel
theorem d_2_11_94 : decode prog_2_method_11_code 94 = .ok (.aload_n 0, 1) := by decide +kernel
theorem d_2_11_95 : decode prog_2_method_11_code 95 = .ok (.getfield 9, 3) := by decide +kernel
theorem d_2_11_98 : decode prog_2_method_11_code 98 = .ok (.bipush 40, 2) := by decide +kernel
theorem d_2_11_100 : decode prog_2_method_11_code 100 = .ok (.invokevirtual 67, 3) := by decide +kernel
theorem d_2_11_103 : decode prog_2_method_11_code 103 = .ok (.aload_n 0, 1) := by decide +kernel
theorem d_2_11_104 : decode prog_2_method_11_code 104 = .ok (.getfield 28, 3) := by decide +kernel
theorem d_2_11_107 : decode prog_2_method_11_code 107 = .ok (.iconst 1, 1) := by decide +kernel
theorem d_2_11_108 : decode prog_2_method_11_code 108 = .ok (.invokevirtual 118, 3) := by decide +kernel
theorem d_2_11_111 : decode prog_2_method_11_code 111 = .ok (.pop, 1) := by decide +kernel
theorem d_2_11_112 : decode prog_2_method_11_code 112 = .ok (.iinc 3 1, 3) := by decide +kernel
theorem d_2_11_115 : decode prog_2_method_11_code 115 = .ok (.iinc 4 1, 3) := by decide +kernel
theorem d_2_11_118 : decode prog_2_method_11_code 118 = .ok (.goto (-56), 3) := by decide +kernel
theorem d_2_11_121 : decode prog_2_method_11_code 121 = .ok (.aload_n 0, 1) := by decide +kernel
theorem d_2_11_122 : decode prog_2_method_11_code 122 = .ok (.getfield 15, 3) := by decide +kernel
theorem d_2_11_125 : decode prog_2_method_11_code 125 = .ok (.invokevirtual 122, 3) := by decide +kernel
theorem d_2_11_128 : decode prog_2_method_11_code 128 = .ok (.aload_n 0, 1) := by decide +kernel
theorem d_2_11_129 : decode prog_2_method_11_code 129 = .ok (.getfield 9, 3) := by decide +kernel
theorem d_2_11_132 : decode prog_2_method_11_code 132 = .ok (.bipush 37, 2) := by decide +kernel
theorem d_2_11_134 : decode prog_2_method_11_code 134 = .ok (.invokevirtual 67, 3) := by decide +kernel
theorem d_2_11_137 : decode prog_2_method_11_code 137 = .ok (.aload_n 0, 1) := by decide +kernel
theorem d_2_11_138 : decode prog_2_method_11_code 138 = .ok (.getfield 15, 3) := by decide +kernel
theorem d_2_11_141 : decode prog_2_method_11_code 141 = .ok (.iload_n 2, 1) := by decide +kernel
theorem d_2_11_142 : decode prog_2_method_11_code 142 = .ok (.iload_n 3, 1) := by decide +kernel
theorem d_2_11_143 : decode prog_2_method_11_code 143 = .ok (.invokevirtual 125, 3) := by decide +kernel
theorem d_2_11_146 : decode prog_2_method_11_code 146 = .ok (.return_, 1) := by decide +kernel
theorem d_2_12_0 : decode prog_2_method_12_code 0 = .ok (.aload_n 0, 1) := by decide +kernel
theorem d_2_12_1 : decode prog_2_method_12_code 1 = .ok (.getfield 9, 3) := by decide +kernel
theorem d_2_12_4 : decode prog_2_method_12_code 4 = .ok (.bipush 9, 2) := by decide +kernel
theorem d_2_12_6 : decode prog_2_method_12_code 6 = .ok (.invokevirtual 67, 3) := by decide +kernel
theorem d_2_12_9 : decode prog_2_method_12_code 9 = .ok (.aload_n 0, 1) := by decide +kernel
theorem d_2_12_10 : decode prog_2_method_12_code 10 = .ok (.getfield 15, 3) := by decide +kernel
theorem d_2_12_13 : decode prog_2_method_12_code 13 = .ok (.iconst 4, 1) := by decide +kernel
theorem d_2_12_14 : decode prog_2_method_12_code 14 = .ok (.iconst 0, 1) := by decide +kernel
theorem d_2_12_15 : decode prog_2_method_12_code 15 = .ok (.invokevirtual 112, 3) := by decide +kernel
theorem d_2_12_18 : decode prog_2_method_12_code 18 = .ok (.pop, 1) := by decide +kernel
theorem d_2_12_19 : decode prog_2_method_12_code 19 = .ok (.aload_n 0, 1) := by decide +kernel
theorem d_2_12_20 : decode prog_2_method_12_code 20 = .ok (.getfield 9, 3) := by decide +kernel
theorem d_2_12_23 : decode prog_2_method_12_code 23 = .ok (.bipush 47, 2) := by decide +kernel
theorem d_2_12_25 : decode prog_2_method_12_code 25 = .ok (.invokevirtual 67, 3) := by decide +kernel
theorem d_2_12_28 : decode prog_2_method_12_code 28 = .ok (.iconst 0, 1) := by decide +kernel
theorem d_2_12_29 : decode prog_2_method_12_code 29 = .ok (.istore_n 1, 1) := by decide +kernel
theorem d_2_12_30 : decode prog_2_method_12_code 30 = .ok (.iload_n 1, 1) := by decide +kernel
theorem d_2_12_31 : decode prog_2_method_12_code 31 = .ok (.sipush 3001, 3) := by decide +kernel
