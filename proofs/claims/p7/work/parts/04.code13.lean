theorem d_10_8_14 : decode prog_10_method_8_code 14 = .ok (.getfield 55, 3) := by decide +kernel
theorem d_10_8_17 : decode prog_10_method_8_code 17 = .ok (.iload_n 2, 1) := by decide +kernel
theorem d_10_8_18 : decode prog_10_method_8_code 18 = .ok (.iaload, 1) := by decide +kernel
theorem d_10_8_19 : decode prog_10_method_8_code 19 = .ok (.aload_n 0, 1) := by decide +kernel
theorem d_10_8_20 : decode prog_10_method_8_code 20 = .ok (.getfield 19, 3) := by decide +kernel
theorem d_10_8_23 : decode prog_10_method_8_code 23 = .ok (.iload_n 2, 1) := by decide +kernel
theorem d_10_8_24 : decode prog_10_method_8_code 24 = .ok (.iaload, 1) := by decide +kernel
theorem d_10_8_25 : decode prog_10_method_8_code 25 = .ok (.isub, 1) := by decide +kernel
theorem d_10_8_26 : decode prog_10_method_8_code 26 = .ok (.if_icmp .eq 5, 3) := by decide +kernel
theorem d_10_8_29 : decode prog_10_method_8_code 29 = .ok (.iconst 0, 1) := by decide +kernel
theorem d_10_8_30 : decode prog_10_method_8_code 30 = .ok (.ireturn, 1) := by decide +kernel
theorem d_10_8_31 : decode prog_10_method_8_code 31 = .ok (.iconst 0, 1) := by decide +kernel
theorem d_10_8_32 : decode prog_10_method_8_code 32 = .ok (.istore_n 3, 1) := by decide +kernel
theorem d_10_8_33 : decode prog_10_method_8_code 33 = .ok (.iload_n 3, 1) := by decide +kernel
theorem d_10_8_34 : decode prog_10_method_8_code 34 = .ok (.aload_n 0, 1) := by decide +kernel
theorem d_10_8_35 : decode prog_10_method_8_code 35 = .ok (.getfield 55, 3) := by decide +kernel
theorem d_10_8_38 : decode prog_10_method_8_code 38 = .ok (.iload_n 1, 1) := by decide +kernel
theorem d_10_8_39 : decode prog_10_method_8_code 39 = .ok (.iaload, 1) := by decide +kernel
theorem d_10_8_40 : decode prog_10_method_8_code 40 = .ok (.aload_n 0, 1) := by decide +kernel
theorem d_10_8_41 : decode prog_10_method_8_code 41 = .ok (.getfield 19, 3) := by decide +kernel
theorem d_10_8_44 : decode prog_10_method_8_code 44 = .ok (.iload_n 1, 1) := by decide +kernel
theorem d_10_8_45 : decode prog_10_method_8_code 45 = .ok (.iaload, 1) := by decide +kernel
theorem d_10_8_46 : decode prog_10_method_8_code 46 = .ok (.isub, 1) := by decide +kernel
theorem d_10_8_47 : decode prog_10_method_8_code 47 = .ok (.if_icmp .ge 40, 3) := by decide +kernel
theorem d_10_8_50 : decode prog_10_method_8_code 50 = .ok (.aload_n 0, 1) := by decide +kernel
theorem d_10_8_51 : decode prog_10_method_8_code 51 = .ok (.getfield 15, 3) := by decide +kernel
theorem d_10_8_54 : decode prog_10_method_8_code 54 = .ok (.aload_n 0, 1) := by decide +kernel
theorem d_10_8_55 : decode prog_10_method_8_code 55 = .ok (.getfield 19, 3) := by decide +kernel
theorem d_10_8_58 : decode prog_10_method_8_code 58 = .ok (.iload_n 1, 1) := by decide +kernel
theorem d_10_8_59 : decode prog_10_method_8_code 59 = .ok (.iaload, 1) := by decide +kernel
theorem d_10_8_60 : decode prog_10_method_8_code 60 = .ok (.iload_n 3, 1) := by decide +kernel
theorem d_10_8_61 : decode prog_10_method_8_code 61 = .ok (.iadd, 1) := by decide +kernel
theorem d_10_8_62 : decode prog_10_method_8_code 62 = .ok (.baload, 1) := by decide +kernel
theorem d_10_8_63 : decode prog_10_method_8_code 63 = .ok (.aload_n 0, 1) := by decide +kernel
theorem d_10_8_64 : decode prog_10_method_8_code 64 = .ok (.getfield 15, 3) := by decide +kernel
theorem d_10_8_67 : decode prog_10_method_8_code 67 = .ok (.aload_n 0, 1) := by decide +kernel
theorem d_10_8_68 : decode prog_10_method_8_code 68 = .ok (.getfield 19, 3) := by decide +kernel
theorem d_10_8_71 : decode prog_10_method_8_code 71 = .ok (.iload_n 2, 1) := by decide +kernel
theorem d_10_8_72 : decode prog_10_method_8_code 72 = .ok (.iaload, 1) := by decide +kernel
theorem d_10_8_73 : decode prog_10_method_8_code 73 = .ok (.iload_n 3, 1) := by decide +kernel
theorem d_10_8_74 : decode prog_10_method_8_code 74 = .ok (.iadd, 1) := by decide +kernel
theorem d_10_8_75 : decode prog_10_method_8_code 75 = .ok (.baload, 1) := by decide +kernel
theorem d_10_8_76 : decode prog_10_method_8_code 76 = .ok (.if_icmp .eq 5, 3) := by decide +kernel
theorem d_10_8_79 : decode prog_10_method_8_code 79 = .ok (.iconst 0, 1) := by decide +kernel
theorem d_10_8_80 : decode prog_10_method_8_code 80 = .ok (.ireturn, 1) := by decide +kernel
theorem d_10_8_81 : decode prog_10_method_8_code 81 = .ok (.iinc 3 1, 3) := by decide +kernel
theorem d_10_8_84 : decode prog_10_method_8_code 84 = .ok (.goto (-51), 3) := by decide +kernel
theorem d_10_8_87 : decode prog_10_method_8_code 87 = .ok (.iconst 1, 1) := by decide +kernel
theorem d_10_8_88 : decode prog_10_method_8_code 88 = .ok (.ireturn, 1) := by decide +kernel
theorem d_10_9_0 : decode prog_10_method_9_code 0 = .ok (.aload_n 0, 1) := by decide +kernel
theorem d_10_9_1 : decode prog_10_method_9_code 1 = .ok (.getfield 66, 3) := by decide +kernel
theorem d_10_9_4 : decode prog_10_method_9_code 4 = .ok (.aload_n 0, 1) := by decide +kernel
theorem d_10_9_5 : decode prog_10_method_9_code 5 = .ok (.getfield 69, 3) := by decide +kernel
theorem d_10_9_8 : decode prog_10_method_9_code 8 = .ok (.iload_n 1, 1) := by decide +kernel
theorem d_10_9_9 : decode prog_10_method_9_code 9 = .ok (.iastore, 1) := by decide +kernel
theorem d_10_9_10 : decode prog_10_method_9_code 10 = .ok (.aload_n 0, 1) := by decide +kernel
theorem d_10_9_11 : decode prog_10_method_9_code 11 = .ok (.getfield 72, 3) := by decide +kernel
theorem d_10_9_14 : decode prog_10_method_9_code 14 = .ok (.aload_n 0, 1) := by decide +kernel
theorem d_10_9_15 : decode prog_10_method_9_code 15 = .ok (.getfield 69, 3) := by decide +kernel
theorem d_10_9_18 : decode prog_10_method_9_code 18 = .ok (.iload_n 2, 1) := by decide +kernel
theorem d_10_9_19 : decode prog_10_method_9_code 19 = .ok (.iastore, 1) := by decide +kernel
theorem d_10_9_20 : decode prog_10_method_9_code 20 = .ok (.aload_n 0, 1) := by decide +kernel
theorem d_10_9_21 : decode prog_10_method_9_code 21 = .ok (.getfield 75, 3) := by decide +kernel
theorem d_10_9_24 : decode prog_10_method_9_code 24 = .ok (.aload_n 0, 1) := by decide +kernel
theorem d_10_9_25 : decode prog_10_method_9_code 25 = .ok (.getfield 69, 3) := by decide +kernel
theorem d_10_9_28 : decode prog_10_method_9_code 28 = .ok (.iconst (-1), 1) := by decide +kernel
theorem d_10_9_29 : decode prog_10_method_9_code 29 = .ok (.iastore, 1) := by decide +kernel
theorem d_10_9_30 : decode prog_10_method_9_code 30 = .ok (.aload_n 0, 1) := by decide +kernel
theorem d_10_9_31 : decode prog_10_method_9_code 31 = .ok (.getfield 78, 3) := by decide +kernel
theorem d_10_9_34 : decode prog_10_method_9_code 34 = .ok (.aload_n 0, 1) := by decide +kernel
theorem d_10_9_35 : decode prog_10_method_9_code 35 = .ok (.getfield 69, 3) := by decide +kernel
theorem d_10_9_38 : decode prog_10_method_9_code 38 = .ok (.iconst (-1), 1) := by decide +kernel
theorem d_10_9_39 : decode prog_10_method_9_code 39 = .ok (.iastore, 1) := by decide +kernel
theorem d_10_9_40 : decode prog_10_method_9_code 40 = .ok (.aload_n 0, 1) := by decide +kernel
theorem d_10_9_41 : decode prog_10_method_9_code 41 = .ok (.getfield 81, 3) := by decide +kernel
theorem d_10_9_44 : decode prog_10_method_9_code 44 = .ok (.aload_n 0, 1) := by decide +kernel
theorem d_10_9_45 : decode prog_10_method_9_code 45 = .ok (.getfield 69, 3) := by decide +kernel
theorem d_10_9_48 : decode prog_10_method_9_code 48 = .ok (.iconst (-1), 1) := by decide +kernel
theorem d_10_9_49 : decode prog_10_method_9_code 49 = .ok (.iastore, 1) := by decide +kernel
theorem d_10_9_50 : decode prog_10_method_9_code 50 = .ok (.aload_n 0, 1) := by decide +kernel
theorem d_10_9_51 : decode prog_10_method_9_code 51 = .ok (.getfield 84, 3) := by decide +kernel
theorem d_10_9_54 : decode prog_10_method_9_code 54 = .ok (.aload_n 0, 1) := by decide +kernel
theorem d_10_9_55 : decode prog_10_method_9_code 55 = .ok (.getfield 69, 3) := by decide +kernel
theorem d_10_9_58 : decode prog_10_method_9_code 58 = .ok (.iconst (-1), 1) := by decide +kernel
theorem d_10_9_59 : decode prog_10_method_9_code 59 = .ok (.iastore, 1) := by decide +kernel
theorem d_10_9_60 : decode prog_10_method_9_code 60 = .ok (.aload_n 0, 1) := by decide +kernel
theorem d_10_9_61 : decode prog_10_method_9_code 61 = .ok (.getfield 87, 3) := by decide +kernel
theorem d_10_9_64 : decode prog_10_method_9_code 64 = .ok (.aload_n 0, 1) := by decide +kernel
theorem d_10_9_65 : decode prog_10_method_9_code 65 = .ok (.getfield 69, 3) := by decide +kernel
theorem d_10_9_68 : decode prog_10_method_9_code 68 = .ok (.iconst (-1), 1) := by decide +kernel
theorem d_10_9_69 : decode prog_10_method_9_code 69 = .ok (.iastore, 1) := by decide +kernel
theorem d_10_9_70 : decode prog_10_method_9_code 70 = .ok (.aload_n 0, 1) := by decide +kernel
theorem d_10_9_71 : decode prog_10_method_9_code 71 = .ok (.getfield 90, 3) := by decide +kernel
theorem d_10_9_74 : decode prog_10_method_9_code 74 = .ok (.aload_n 0, 1) := by decide +kernel
theorem d_10_9_75 : decode prog_10_method_9_code 75 = .ok (.getfield 69, 3) := by decide +kernel
theorem d_10_9_78 : decode prog_10_method_9_code 78 = .ok (.aload_n 0, 1) := by decide +kernel
theorem d_10_9_79 : decode prog_10_method_9_code 79 = .ok (.getfield 93, 3) := by decide +kernel
theorem d_10_9_82 : decode prog_10_method_9_code 82 = .ok (.iastore, 1) := by decide +kernel
theorem d_10_9_83 : decode prog_10_method_9_code 83 = .ok (.aload_n 0, 1) := by decide +kernel
theorem d_10_9_84 : decode prog_10_method_9_code 84 = .ok (.dup, 1) := by decide +kernel
theorem d_10_9_85 : decode prog_10_method_9_code 85 = .ok (.getfield 69, 3) := by decide +kernel
theorem d_10_9_88 : decode prog_10_method_9_code 88 = .ok (.iconst 1, 1) := by decide +kernel
theorem d_10_9_89 : decode prog_10_method_9_code 89 = .ok (.iadd, 1) := by decide +kernel
theorem d_10_9_90 : decode prog_10_method_9_code 90 = .ok (.putfield 69, 3) := by decide +kernel
theorem d_10_9_93 : decode prog_10_method_9_code 93 = .ok (.aload_n 0, 1) := by decide +kernel
theorem d_10_9_94 : decode prog_10_method_9_code 94 = .ok (.getfield 69, 3) := by decide +kernel
theorem d_10_9_97 : decode prog_10_method_9_code 97 = .ok (.iconst 1, 1) := by decide +kernel
theorem d_10_9_98 : decode prog_10_method_9_code 98 = .ok (.isub, 1) := by decide +kernel
theorem d_10_9_99 : decode prog_10_method_9_code 99 = .ok (.ireturn, 1) := by decide +kernel
theorem d_11_11_0 : decode prog_11_method_11_code 0 = .ok (.iload_n 0, 1) := by decide +kernel
theorem d_11_11_1 : decode prog_11_method_11_code 1 = .ok (.bipush 16, 2) := by decide +kernel
theorem d_11_11_3 : decode prog_11_method_11_code 3 = .ok (.iushr, 1) := by decide +kernel
theorem d_11_11_4 : decode prog_11_method_11_code 4 = .ok (.istore_n 1, 1) := by decide +kernel
theorem d_11_11_5 : decode prog_11_method_11_code 5 = .ok (.iload_n 1, 1) := by decide +kernel
theorem d_11_11_6 : decode prog_11_method_11_code 6 = .ok (.bipush 17, 2) := by decide +kernel
theorem d_11_11_8 : decode prog_11_method_11_code 8 = .ok (.if_icmp .ge 7, 3) := by decide +kernel
theorem d_11_11_11 : decode prog_11_method_11_code 11 = .ok (.iconst 1, 1) := by decide +kernel
theorem d_11_11_12 : decode prog_11_method_11_code 12 = .ok (.goto 4, 3) := by decide +kernel
theorem d_11_11_15 : decode prog_11_method_11_code 15 = .ok (.iconst 0, 1) := by decide +kernel
theorem d_11_11_16 : decode prog_11_method_11_code 16 = .ok (.ireturn, 1) := by decide +kernel
theorem d_11_28_0 : decode prog_11_method_28_code 0 = .ok (.iload_n 0, 1) := by decide +kernel
theorem d_11_28_1 : decode prog_11_method_28_code 1 = .ok (.bipush 10, 2) := by decide +kernel
theorem d_11_28_3 : decode prog_11_method_28_code 3 = .ok (.iushr, 1) := by decide +kernel
theorem d_11_28_4 : decode prog_11_method_28_code 4 = .ok (.ldc 110, 2) := by decide +kernel
theorem d_11_28_6 : decode prog_11_method_28_code 6 = .ok (.iadd, 1) := by decide +kernel
theorem d_11_28_7 : decode prog_11_method_28_code 7 = .ok (.i2c, 1) := by decide +kernel
theorem d_11_28_8 : decode prog_11_method_28_code 8 = .ok (.ireturn, 1) := by decide +kernel
theorem d_11_29_0 : decode prog_11_method_29_code 0 = .ok (.iload_n 0, 1) := by decide +kernel
theorem d_11_29_1 : decode prog_11_method_29_code 1 = .ok (.sipush 1023, 3) := by decide +kernel
theorem d_11_29_4 : decode prog_11_method_29_code 4 = .ok (.iand, 1) := by decide +kernel
theorem d_11_29_5 : decode prog_11_method_29_code 5 = .ok (.ldc 76, 2) := by decide +kernel
theorem d_11_29_7 : decode prog_11_method_29_code 7 = .ok (.iadd, 1) := by decide +kernel
theorem d_11_29_8 : decode prog_11_method_29_code 8 = .ok (.i2c, 1) := by decide +kernel
theorem d_11_29_9 : decode prog_11_method_29_code 9 = .ok (.ireturn, 1) := by decide +kernel
theorem d_12_65_0 : decode prog_12_method_65_code 0 = .ok (.iload_n 0, 1) := by decide +kernel
theorem d_12_65_1 : decode prog_12_method_65_code 1 = .ok (.iload_n 1, 1) := by decide +kernel
theorem d_12_65_2 : decode prog_12_method_65_code 2 = .ok (.if_icmp .lt 7, 3) := by decide +kernel
theorem d_12_65_5 : decode prog_12_method_65_code 5 = .ok (.iload_n 0, 1) := by decide +kernel
theorem d_12_65_6 : decode prog_12_method_65_code 6 = .ok (.goto 4, 3) := by decide +kernel
theorem d_12_65_9 : decode prog_12_method_65_code 9 = .ok (.iload_n 1, 1) := by decide +kernel
theorem d_12_65_10 : decode prog_12_method_65_code 10 = .ok (.ireturn, 1) := by decide +kernel
theorem d_12_69_0 : decode prog_12_method_69_code 0 = .ok (.iload_n 0, 1) := by decide +kernel
theorem d_12_69_1 : decode prog_12_method_69_code 1 = .ok (.iload_n 1, 1) := by decide +kernel
theorem d_12_69_2 : decode prog_12_method_69_code 2 = .ok (.if_icmp .gt 7, 3) := by decide +kernel
theorem d_12_69_5 : decode prog_12_method_69_code 5 = .ok (.iload_n 0, 1) := by decide +kernel
theorem d_12_69_6 : decode prog_12_method_69_code 6 = .ok (.goto 4, 3) := by decide +kernel
theorem d_12_69_9 : decode prog_12_method_69_code 9 = .ok (.iload_n 1, 1) := by decide +kernel
theorem d_12_69_10 : decode prog_12_method_69_code 10 = .ok (.ireturn, 1) := by decide +kernel
theorem d_12_70_0 : decode prog_12_method_70_code 0 = .ok (.lload_n 0, 1) := by decide +kernel
theorem d_12_70_1 : decode prog_12_method_70_code 1 = .ok (.lload_n 2, 1) := by decide +kernel
theorem d_12_70_2 : decode prog_12_method_70_code 2 = .ok (.lcmp, 1) := by decide +kernel
theorem d_12_70_3 : decode prog_12_method_70_code 3 = .ok (.ifCond .gt 7, 3) := by decide +kernel
theorem d_12_70_6 : decode prog_12_method_70_code 6 = .ok (.lload_n 0, 1) := by decide +kernel
theorem d_12_70_7 : decode prog_12_method_70_code 7 = .ok (.goto 4, 3) := by decide +kernel
theorem d_12_70_10 : decode prog_12_method_70_code 10 = .ok (.lload_n 2, 1) := by decide +kernel
theorem d_12_70_11 : decode prog_12_method_70_code 11 = .ok (.lreturn, 1) := by decide +kernel
theorem d_13_152_0 : decode prog_13_method_152_code 0 = .ok (.getstatic 38, 3) := by decide +kernel
theorem d_13_152_3 : decode prog_13_method_152_code 3 = .ok (.ifCond .eq 10, 3) := by decide +kernel
theorem d_13_152_6 : decode prog_13_method_152_code 6 = .ok (.aload_n 0, 1) := by decide +kernel
theorem d_13_152_7 : decode prog_13_method_152_code 7 = .ok (.getfield 15, 3) := by decide +kernel
theorem d_13_152_10 : decode prog_13_method_152_code 10 = .ok (.goto 4, 3) := by decide +kernel
theorem d_13_152_13 : decode prog_13_method_152_code 13 = .ok (.iconst 1, 1) := by decide +kernel
theorem d_13_152_14 : decode prog_13_method_152_code 14 = .ok (.ireturn, 1) := by decide +kernel
theorem d_13_154_0 : decode prog_13_method_154_code 0 = .ok (.getstatic 38, 3) := by decide +kernel
theorem d_13_154_3 : decode prog_13_method_154_code 3 = .ok (.ifCond .eq 14, 3) := by decide +kernel
theorem d_13_154_6 : decode prog_13_method_154_code 6 = .ok (.aload_n 0, 1) := by decide +kernel
theorem d_13_154_7 : decode prog_13_method_154_code 7 = .ok (.getfield 15, 3) := by decide +kernel
theorem d_13_154_10 : decode prog_13_method_154_code 10 = .ok (.ifCond .ne 7, 3) := by decide +kernel
theorem d_13_154_13 : decode prog_13_method_154_code 13 = .ok (.iconst 1, 1) := by decide +kernel
theorem d_13_154_14 : decode prog_13_method_154_code 14 = .ok (.goto 4, 3) := by decide +kernel
theorem d_13_154_17 : decode prog_13_method_154_code 17 = .ok (.iconst 0, 1) := by decide +kernel
theorem d_13_154_18 : decode prog_13_method_154_code 18 = .ok (.ireturn, 1) := by decide +kernel
theorem d_13_155_0 : decode prog_13_method_155_code 0 = .ok (.iload_n 0, 1) := by decide +kernel
theorem d_13_155_1 : decode prog_13_method_155_code 1 = .ok (.iload_n 1, 1) := by decide +kernel
theorem d_13_155_2 : decode prog_13_method_155_code 2 = .ok (.getstatic 1053, 3) := by decide +kernel
theorem d_13_155_5 : decode prog_13_method_155_code 5 = .ok (.invokestatic 1059, 3) := by decide +kernel
theorem d_13_155_8 : decode prog_13_method_155_code 8 = .ok (.pop, 1) := by decide +kernel
theorem d_13_155_9 : decode prog_13_method_155_code 9 = .ok (.return_, 1) := by decide +kernel
theorem d_13_158_0 : decode prog_13_method_158_code 0 = .ok (.iload_n 0, 1) := by decide +kernel
theorem d_13_158_1 : decode prog_13_method_158_code 1 = .ok (.iload_n 1, 1) := by decide +kernel
theorem d_13_158_2 : decode prog_13_method_158_code 2 = .ok (.iload_n 2, 1) := by decide +kernel
theorem d_13_158_3 : decode prog_13_method_158_code 3 = .ok (.getstatic 1053, 3) := by decide +kernel
theorem d_13_158_6 : decode prog_13_method_158_code 6 = .ok (.invokestatic 1062, 3) := by decide +kernel
theorem d_13_158_9 : decode prog_13_method_158_code 9 = .ok (.pop, 1) := by decide +kernel
theorem d_13_158_10 : decode prog_13_method_158_code 10 = .ok (.return_, 1) := by decide +kernel
theorem d_13_54_0 : decode prog_13_method_54_code 0 = .ok (.aload_n 0, 1) := by decide +kernel
theorem d_13_54_1 : decode prog_13_method_54_code 1 = .ok (.getfield 9, 3) := by decide +kernel
theorem d_13_54_4 : decode prog_13_method_54_code 4 = .ok (.arraylength, 1) := by decide +kernel
theorem d_13_54_5 : decode prog_13_method_54_code 5 = .ok (.aload_n 0, 1) := by decide +kernel
theorem d_13_54_6 : decode prog_13_method_54_code 6 = .ok (.invokevirtual 335, 3) := by decide +kernel
theorem d_13_54_9 : decode prog_13_method_54_code 9 = .ok (.ishr, 1) := by decide +kernel
theorem d_13_54_10 : decode prog_13_method_54_code 10 = .ok (.ireturn, 1) := by decide +kernel
theorem d_13_56_0 : decode prog_13_method_56_code 0 = .ok (.aload_n 0, 1) := by decide +kernel
theorem d_13_56_1 : decode prog_13_method_56_code 1 = .ok (.invokevirtual 492, 3) := by decide +kernel
theorem d_13_56_4 : decode prog_13_method_56_code 4 = .ok (.ifCond .eq 12, 3) := by decide +kernel
theorem d_13_56_7 : decode prog_13_method_56_code 7 = .ok (.aload_n 0, 1) := by decide +kernel
theorem d_13_56_8 : decode prog_13_method_56_code 8 = .ok (.getfield 9, 3) := by decide +kernel
theorem d_13_56_11 : decode prog_13_method_56_code 11 = .ok (.iload_n 1, 1) := by decide +kernel
theorem d_13_56_12 : decode prog_13_method_56_code 12 = .ok (.invokestatic 495, 3) := by decide +kernel
theorem d_13_56_15 : decode prog_13_method_56_code 15 = .ok (.ireturn, 1) := by decide +kernel
theorem d_13_56_16 : decode prog_13_method_56_code 16 = .ok (.aload_n 0, 1) := by decide +kernel
theorem d_13_56_17 : decode prog_13_method_56_code 17 = .ok (.getfield 9, 3) := by decide +kernel
theorem d_13_56_20 : decode prog_13_method_56_code 20 = .ok (.iload_n 1, 1) := by decide +kernel
theorem d_13_56_21 : decode prog_13_method_56_code 21 = .ok (.invokestatic 498, 3) := by decide +kernel
theorem d_13_56_24 : decode prog_13_method_56_code 24 = .ok (.ireturn, 1) := by decide +kernel
theorem d_13_79_0 : decode prog_13_method_79_code 0 = .ok (.aload_n 0, 1) := by decide +kernel
theorem d_13_79_1 : decode prog_13_method_79_code 1 = .ok (.iload_n 1, 1) := by decide +kernel
theorem d_13_79_2 : decode prog_13_method_79_code 2 = .ok (.iconst 0, 1) := by decide +kernel
theorem d_13_79_3 : decode prog_13_method_79_code 3 = .ok (.invokevirtual 633, 3) := by decide +kernel
theorem d_13_79_6 : decode prog_13_method_79_code 6 = .ok (.ireturn, 1) := by decide +kernel
theorem d_13_80_0 : decode prog_13_method_80_code 0 = .ok (.aload_n 0, 1) := by decide +kernel
theorem d_13_80_1 : decode prog_13_method_80_code 1 = .ok (.invokevirtual 492, 3) := by decide +kernel
theorem d_13_80_4 : decode prog_13_method_80_code 4 = .ok (.ifCond .eq 19, 3) := by decide +kernel
theorem d_13_80_7 : decode prog_13_method_80_code 7 = .ok (.aload_n 0, 1) := by decide +kernel
theorem d_13_80_8 : decode prog_13_method_80_code 8 = .ok (.getfield 9, 3) := by decide +kernel
theorem d_13_80_11 : decode prog_13_method_80_code 11 = .ok (.iload_n 1, 1) := by decide +kernel
theorem d_13_80_12 : decode prog_13_method_80_code 12 = .ok (.iload_n 2, 1) := by decide +kernel
theorem d_13_80_13 : decode prog_13_method_80_code 13 = .ok (.aload_n 0, 1) := by decide +kernel
theorem d_13_80_14 : decode prog_13_method_80_code 14 = .ok (.invokevirtual 505, 3) := by decide +kernel
theorem d_13_80_17 : decode prog_13_method_80_code 17 = .ok (.invokestatic 637, 3) := by decide +kernel
theorem d_13_80_20 : decode prog_13_method_80_code 20 = .ok (.goto 16, 3) := by decide +kernel
theorem d_13_80_23 : decode prog_13_method_80_code 23 = .ok (.aload_n 0, 1) := by decide +kernel
theorem d_13_80_24 : decode prog_13_method_80_code 24 = .ok (.getfield 9, 3) := by decide +kernel
theorem d_13_80_27 : decode prog_13_method_80_code 27 = .ok (.iload_n 1, 1) := by decide +kernel
theorem d_13_80_28 : decode prog_13_method_80_code 28 = .ok (.iload_n 2, 1) := by decide +kernel
theorem d_13_80_29 : decode prog_13_method_80_code 29 = .ok (.aload_n 0, 1) := by decide +kernel
theorem d_13_80_30 : decode prog_13_method_80_code 30 = .ok (.invokevirtual 505, 3) := by decide +kernel
theorem d_13_80_33 : decode prog_13_method_80_code 33 = .ok (.invokestatic 640, 3) := by decide +kernel
theorem d_13_80_36 : decode prog_13_method_80_code 36 = .ok (.ireturn, 1) := by decide +kernel
theorem d_14_22_0 : decode prog_14_method_22_code 0 = .ok (.iload_n 1, 1) := by decide +kernel
theorem d_14_22_1 : decode prog_14_method_22_code 1 = .ok (.invokestatic 88, 3) := by decide +kernel
theorem d_14_22_4 : decode prog_14_method_22_code 4 = .ok (.ifCond .ne 5, 3) := by decide +kernel
theorem d_14_22_7 : decode prog_14_method_22_code 7 = .ok (.iconst (-1), 1) := by decide +kernel
theorem d_14_22_8 : decode prog_14_method_22_code 8 = .ok (.ireturn, 1) := by decide +kernel
theorem d_14_22_9 : decode prog_14_method_22_code 9 = .ok (.iload_n 2, 1) := by decide +kernel
theorem d_14_22_10 : decode prog_14_method_22_code 10 = .ok (.iconst 0, 1) := by decide +kernel
theorem d_14_22_11 : decode prog_14_method_22_code 11 = .ok (.invokestatic 92, 3) := by decide +kernel
theorem d_14_22_14 : decode prog_14_method_22_code 14 = .ok (.istore_n 2, 1) := by decide +kernel
theorem d_14_22_15 : decode prog_14_method_22_code 15 = .ok (.iload_n 3, 1) := by decide +kernel
theorem d_14_22_16 : decode prog_14_method_22_code 16 = .ok (.aload_n 0, 1) := by decide +kernel
theorem d_14_22_17 : decode prog_14_method_22_code 17 = .ok (.arraylength, 1) := by decide +kernel
theorem d_14_22_18 : decode prog_14_method_22_code 18 = .ok (.invokestatic 38, 3) := by decide +kernel
theorem d_14_22_21 : decode prog_14_method_22_code 21 = .ok (.istore_n 3, 1) := by decide +kernel
theorem d_14_22_22 : decode prog_14_method_22_code 22 = .ok (.iload_n 2, 1) := by decide +kernel
theorem d_14_22_23 : decode prog_14_method_22_code 23 = .ok (.iload_n 3, 1) := by decide +kernel
theorem d_14_22_24 : decode prog_14_method_22_code 24 = .ok (.if_icmp .lt 5, 3) := by decide +kernel
theorem d_14_22_27 : decode prog_14_method_22_code 27 = .ok (.iconst (-1), 1) := by decide +kernel
theorem d_14_22_28 : decode prog_14_method_22_code 28 = .ok (.ireturn, 1) := by decide +kernel
theorem d_14_22_29 : decode prog_14_method_22_code 29 = .ok (.aload_n 0, 1) := by decide +kernel
theorem d_14_22_30 : decode prog_14_method_22_code 30 = .ok (.iload_n 1, 1) := by decide +kernel
theorem d_14_22_31 : decode prog_14_method_22_code 31 = .ok (.iload_n 2, 1) := by decide +kernel
theorem d_14_22_32 : decode prog_14_method_22_code 32 = .ok (.iload_n 3, 1) := by decide +kernel
theorem d_14_22_33 : decode prog_14_method_22_code 33 = .ok (.invokestatic 95, 3) := by decide +kernel
theorem d_14_22_36 : decode prog_14_method_22_code 36 = .ok (.ireturn, 1) := by decide +kernel
theorem d_14_23_0 : decode prog_14_method_23_code 0 = .ok (.iload_n 1, 1) := by decide +kernel
theorem d_14_23_1 : decode prog_14_method_23_code 1 = .ok (.i2b, 1) := by decide +kernel
theorem d_14_23_2 : decode prog_14_method_23_code 2 = .ok (.istore 4, 2) := by decide +kernel
theorem d_14_23_4 : decode prog_14_method_23_code 4 = .ok (.iload_n 2, 1) := by decide +kernel
theorem d_14_23_5 : decode prog_14_method_23_code 5 = .ok (.istore 5, 2) := by decide +kernel
theorem d_14_23_7 : decode prog_14_method_23_code 7 = .ok (.iload 5, 2) := by decide +kernel
theorem d_14_23_9 : decode prog_14_method_23_code 9 = .ok (.iload_n 3, 1) := by decide +kernel
theorem d_14_23_10 : decode prog_14_method_23_code 10 = .ok (.if_icmp .ge 21, 3) := by decide +kernel
theorem d_14_23_13 : decode prog_14_method_23_code 13 = .ok (.aload_n 0, 1) := by decide +kernel
theorem d_14_23_14 : decode prog_14_method_23_code 14 = .ok (.iload 5, 2) := by decide +kernel
theorem d_14_23_16 : decode prog_14_method_23_code 16 = .ok (.baload, 1) := by decide +kernel
theorem d_14_23_17 : decode prog_14_method_23_code 17 = .ok (.iload 4, 2) := by decide +kernel
theorem d_14_23_19 : decode prog_14_method_23_code 19 = .ok (.if_icmp .ne 6, 3) := by decide +kernel
theorem d_14_23_22 : decode prog_14_method_23_code 22 = .ok (.iload 5, 2) := by decide +kernel
theorem d_14_23_24 : decode prog_14_method_23_code 24 = .ok (.ireturn, 1) := by decide +kernel
theorem d_14_23_25 : decode prog_14_method_23_code 25 = .ok (.iinc 5 1, 3) := by decide +kernel
theorem d_14_23_28 : decode prog_14_method_23_code 28 = .ok (.goto (-21), 3) := by decide +kernel
theorem d_14_23_31 : decode prog_14_method_23_code 31 = .ok (.iconst (-1), 1) := by decide +kernel
theorem d_14_23_32 : decode prog_14_method_23_code 32 = .ok (.ireturn, 1) := by decide +kernel
theorem d_14_2_0 : decode prog_14_method_2_code 0 = .ok (.iload_n 1, 1) := by decide +kernel
theorem d_14_2_1 : decode prog_14_method_2_code 1 = .ok (.aload_n 0, 1) := by decide +kernel
theorem d_14_2_2 : decode prog_14_method_2_code 2 = .ok (.arraylength, 1) := by decide +kernel
theorem d_14_2_3 : decode prog_14_method_2_code 3 = .ok (.invokestatic 9, 3) := by decide +kernel
theorem d_14_2_6 : decode prog_14_method_2_code 6 = .ok (.aload_n 0, 1) := by decide +kernel
theorem d_14_2_7 : decode prog_14_method_2_code 7 = .ok (.iload_n 1, 1) := by decide +kernel
theorem d_14_2_8 : decode prog_14_method_2_code 8 = .ok (.baload, 1) := by decide +kernel
theorem d_14_2_9 : decode prog_14_method_2_code 9 = .ok (.sipush 255, 3) := by decide +kernel
theorem d_14_2_12 : decode prog_14_method_2_code 12 = .ok (.iand, 1) := by decide +kernel
theorem d_14_2_13 : decode prog_14_method_2_code 13 = .ok (.i2c, 1) := by decide +kernel
theorem d_14_2_14 : decode prog_14_method_2_code 14 = .ok (.ireturn, 1) := by decide +kernel
theorem d_14_4_0 : decode prog_14_method_4_code 0 = .ok (.iload_n 0, 1) := by decide +kernel
theorem d_14_4_1 : decode prog_14_method_4_code 1 = .ok (.ifCond .lt 14, 3) := by decide +kernel
theorem d_14_4_4 : decode prog_14_method_4_code 4 = .ok (.iload_n 0, 1) := by decide +kernel
theorem d_14_4_5 : decode prog_14_method_4_code 5 = .ok (.sipush 255, 3) := by decide +kernel
theorem d_14_4_8 : decode prog_14_method_4_code 8 = .ok (.if_icmp .gt 7, 3) := by decide +kernel
theorem d_14_4_11 : decode prog_14_method_4_code 11 = .ok (.iconst 1, 1) := by decide +kernel
theorem d_14_4_12 : decode prog_14_method_4_code 12 = .ok (.goto 4, 3) := by decide +kernel
theorem d_14_4_15 : decode prog_14_method_4_code 15 = .ok (.iconst 0, 1) := by decide +kernel
theorem d_14_4_16 : decode prog_14_method_4_code 16 = .ok (.ireturn, 1) := by decide +kernel
theorem d_15_40_0 : decode prog_15_method_40_code 0 = .ok (.iload_n 2, 1) := by decide +kernel
theorem d_15_40_1 : decode prog_15_method_40_code 1 = .ok (.iconst 0, 1) := by decide +kernel
theorem d_15_40_2 : decode prog_15_method_40_code 2 = .ok (.invokestatic 224, 3) := by decide +kernel
theorem d_15_40_5 : decode prog_15_method_40_code 5 = .ok (.istore_n 2, 1) := by decide +kernel
theorem d_15_40_6 : decode prog_15_method_40_code 6 = .ok (.iload_n 3, 1) := by decide +kernel
theorem d_15_40_7 : decode prog_15_method_40_code 7 = .ok (.aload_n 0, 1) := by decide +kernel
theorem d_15_40_8 : decode prog_15_method_40_code 8 = .ok (.arraylength, 1) := by decide +kernel
theorem d_15_40_9 : decode prog_15_method_40_code 9 = .ok (.iconst 1, 1) := by decide +kernel
theorem d_15_40_10 : decode prog_15_method_40_code 10 = .ok (.ishr, 1) := by decide +kernel
theorem d_15_40_11 : decode prog_15_method_40_code 11 = .ok (.invokestatic 183, 3) := by decide +kernel
theorem d_15_40_14 : decode prog_15_method_40_code 14 = .ok (.istore_n 3, 1) := by decide +kernel
theorem d_15_40_15 : decode prog_15_method_40_code 15 = .ok (.iload_n 2, 1) := by decide +kernel
theorem d_15_40_16 : decode prog_15_method_40_code 16 = .ok (.iload_n 3, 1) := by decide +kernel
theorem d_15_40_17 : decode prog_15_method_40_code 17 = .ok (.if_icmp .lt 5, 3) := by decide +kernel
theorem d_15_40_20 : decode prog_15_method_40_code 20 = .ok (.iconst (-1), 1) := by decide +kernel
theorem d_15_40_21 : decode prog_15_method_40_code 21 = .ok (.ireturn, 1) := by decide +kernel
theorem d_15_40_22 : decode prog_15_method_40_code 22 = .ok (.iload_n 1, 1) := by decide +kernel
theorem d_15_40_23 : decode prog_15_method_40_code 23 = .ok (.ldc 227, 2) := by decide +kernel
theorem d_15_40_25 : decode prog_15_method_40_code 25 = .ok (.if_icmp .ge 11, 3) := by decide +kernel
theorem d_15_40_28 : decode prog_15_method_40_code 28 = .ok (.aload_n 0, 1) := by decide +kernel
theorem d_15_40_29 : decode prog_15_method_40_code 29 = .ok (.iload_n 1, 1) := by decide +kernel
theorem d_15_40_30 : decode prog_15_method_40_code 30 = .ok (.iload_n 2, 1) := by decide +kernel
theorem d_15_40_31 : decode prog_15_method_40_code 31 = .ok (.iload_n 3, 1) := by decide +kernel
theorem d_15_40_32 : decode prog_15_method_40_code 32 = .ok (.invokestatic 228, 3) := by decide +kernel
theorem d_15_40_35 : decode prog_15_method_40_code 35 = .ok (.ireturn, 1) := by decide +kernel
theorem d_15_40_36 : decode prog_15_method_40_code 36 = .ok (.aload_n 0, 1) := by decide +kernel
theorem d_15_40_37 : decode prog_15_method_40_code 37 = .ok (.iload_n 1, 1) := by decide +kernel
theorem d_15_40_38 : decode prog_15_method_40_code 38 = .ok (.iload_n 2, 1) := by decide +kernel
theorem d_15_40_39 : decode prog_15_method_40_code 39 = .ok (.iload_n 3, 1) := by decide +kernel
theorem d_15_40_40 : decode prog_15_method_40_code 40 = .ok (.invokestatic 232, 3) := by decide +kernel
theorem d_15_40_43 : decode prog_15_method_40_code 43 = .ok (.ireturn, 1) := by decide +kernel
theorem d_15_47_0 : decode prog_15_method_47_code 0 = .ok (.iload_n 2, 1) := by decide +kernel
theorem d_15_47_1 : decode prog_15_method_47_code 1 = .ok (.iload_n 3, 1) := by decide +kernel
theorem d_15_47_2 : decode prog_15_method_47_code 2 = .ok (.aload_n 0, 1) := by decide +kernel
theorem d_15_47_3 : decode prog_15_method_47_code 3 = .ok (.invokestatic 96, 3) := by decide +kernel
theorem d_15_47_6 : decode prog_15_method_47_code 6 = .ok (.aload_n 0, 1) := by decide +kernel
theorem d_15_47_7 : decode prog_15_method_47_code 7 = .ok (.iload_n 1, 1) := by decide +kernel
theorem d_15_47_8 : decode prog_15_method_47_code 8 = .ok (.iload_n 2, 1) := by decide +kernel
theorem d_15_47_9 : decode prog_15_method_47_code 9 = .ok (.iload_n 3, 1) := by decide +kernel
theorem d_15_47_10 : decode prog_15_method_47_code 10 = .ok (.invokestatic 244, 3) := by decide +kernel
theorem d_15_47_13 : decode prog_15_method_47_code 13 = .ok (.ireturn, 1) := by decide +kernel
theorem d_15_48_0 : decode prog_15_method_48_code 0 = .ok (.iload_n 2, 1) := by decide +kernel
theorem d_15_48_1 : decode prog_15_method_48_code 1 = .ok (.istore 4, 2) := by decide +kernel
theorem d_15_48_3 : decode prog_15_method_48_code 3 = .ok (.iload 4, 2) := by decide +kernel
theorem d_15_48_5 : decode prog_15_method_48_code 5 = .ok (.iload_n 3, 1) := by decide +kernel
theorem d_15_48_6 : decode prog_15_method_48_code 6 = .ok (.if_icmp .ge 22, 3) := by decide +kernel
theorem d_15_48_9 : decode prog_15_method_48_code 9 = .ok (.aload_n 0, 1) := by decide +kernel
theorem d_15_48_10 : decode prog_15_method_48_code 10 = .ok (.iload 4, 2) := by decide +kernel
theorem d_15_48_12 : decode prog_15_method_48_code 12 = .ok (.invokestatic 71, 3) := by decide +kernel
theorem d_15_48_15 : decode prog_15_method_48_code 15 = .ok (.iload_n 1, 1) := by decide +kernel
theorem d_15_48_16 : decode prog_15_method_48_code 16 = .ok (.if_icmp .ne 6, 3) := by decide +kernel
theorem d_15_48_19 : decode prog_15_method_48_code 19 = .ok (.iload 4, 2) := by decide +kernel
theorem d_15_48_21 : decode prog_15_method_48_code 21 = .ok (.ireturn, 1) := by decide +kernel
theorem d_15_48_22 : decode prog_15_method_48_code 22 = .ok (.iinc 4 1, 3) := by decide +kernel
theorem d_15_48_25 : decode prog_15_method_48_code 25 = .ok (.goto (-22), 3) := by decide +kernel
theorem d_15_48_28 : decode prog_15_method_48_code 28 = .ok (.iconst (-1), 1) := by decide +kernel
theorem d_15_48_29 : decode prog_15_method_48_code 29 = .ok (.ireturn, 1) := by decide +kernel
theorem d_15_49_0 : decode prog_15_method_49_code 0 = .ok (.iload_n 1, 1) := by decide +kernel
theorem d_15_49_1 : decode prog_15_method_49_code 1 = .ok (.invokestatic 164, 3) := by decide +kernel
theorem d_15_49_4 : decode prog_15_method_49_code 4 = .ok (.ifCond .eq 65, 3) := by decide +kernel
theorem d_15_49_7 : decode prog_15_method_49_code 7 = .ok (.iload_n 1, 1) := by decide +kernel
theorem d_15_49_8 : decode prog_15_method_49_code 8 = .ok (.invokestatic 157, 3) := by decide +kernel
theorem d_15_49_11 : decode prog_15_method_49_code 11 = .ok (.istore 4, 2) := by decide +kernel
theorem d_15_49_13 : decode prog_15_method_49_code 13 = .ok (.iload_n 1, 1) := by decide +kernel
theorem d_15_49_14 : decode prog_15_method_49_code 14 = .ok (.invokestatic 161, 3) := by decide +kernel
theorem d_15_49_17 : decode prog_15_method_49_code 17 = .ok (.istore 5, 2) := by decide +kernel
theorem d_15_49_19 : decode prog_15_method_49_code 19 = .ok (.iload_n 2, 1) := by decide +kernel
theorem d_15_49_20 : decode prog_15_method_49_code 20 = .ok (.iload_n 3, 1) := by decide +kernel
theorem d_15_49_21 : decode prog_15_method_49_code 21 = .ok (.aload_n 0, 1) := by decide +kernel
theorem d_15_49_22 : decode prog_15_method_49_code 22 = .ok (.invokestatic 96, 3) := by decide +kernel
theorem d_15_49_25 : decode prog_15_method_49_code 25 = .ok (.iload_n 2, 1) := by decide +kernel
theorem d_15_49_26 : decode prog_15_method_49_code 26 = .ok (.istore 6, 2) := by decide +kernel
theorem d_15_49_28 : decode prog_15_method_49_code 28 = .ok (.iload 6, 2) := by decide +kernel
theorem d_15_49_30 : decode prog_15_method_49_code 30 = .ok (.iload_n 3, 1) := by decide +kernel
theorem d_15_49_31 : decode prog_15_method_49_code 31 = .ok (.iconst 1, 1) := by decide +kernel
theorem d_15_49_32 : decode prog_15_method_49_code 32 = .ok (.isub, 1) := by decide +kernel
theorem d_15_49_33 : decode prog_15_method_49_code 33 = .ok (.if_icmp .ge 36, 3) := by decide +kernel
theorem d_15_49_36 : decode prog_15_method_49_code 36 = .ok (.aload_n 0, 1) := by decide +kernel
theorem d_15_49_37 : decode prog_15_method_49_code 37 = .ok (.iload 6, 2) := by decide +kernel
theorem d_15_49_39 : decode prog_15_method_49_code 39 = .ok (.invokestatic 71, 3) := by decide +kernel
theorem d_15_49_42 : decode prog_15_method_49_code 42 = .ok (.iload 4, 2) := by decide +kernel
theorem d_15_49_44 : decode prog_15_method_49_code 44 = .ok (.if_icmp .ne 19, 3) := by decide +kernel
theorem d_15_49_47 : decode prog_15_method_49_code 47 = .ok (.aload_n 0, 1) := by decide +kernel
theorem d_15_49_48 : decode prog_15_method_49_code 48 = .ok (.iload 6, 2) := by decide +kernel
theorem d_15_49_50 : decode prog_15_method_49_code 50 = .ok (.iconst 1, 1) := by decide +kernel
theorem d_15_49_51 : decode prog_15_method_49_code 51 = .ok (.iadd, 1) := by decide +kernel
theorem d_15_49_52 : decode prog_15_method_49_code 52 = .ok (.invokestatic 71, 3) := by decide +kernel
theorem d_15_49_55 : decode prog_15_method_49_code 55 = .ok (.iload 5, 2) := by decide +kernel
theorem d_15_49_57 : decode prog_15_method_49_code 57 = .ok (.if_icmp .ne 6, 3) := by decide +kernel
theorem d_15_49_60 : decode prog_15_method_49_code 60 = .ok (.iload 6, 2) := by decide +kernel
theorem d_15_49_62 : decode prog_15_method_49_code 62 = .ok (.ireturn, 1) := by decide +kernel
theorem d_15_49_63 : decode prog_15_method_49_code 63 = .ok (.iinc 6 1, 3) := by decide +kernel
theorem d_15_49_66 : decode prog_15_method_49_code 66 = .ok (.goto (-38), 3) := by decide +kernel
theorem d_15_49_69 : decode prog_15_method_49_code 69 = .ok (.iconst (-1), 1) := by decide +kernel
theorem d_15_49_70 : decode prog_15_method_49_code 70 = .ok (.ireturn, 1) := by decide +kernel
theorem d_15_5_0 : decode prog_15_method_5_code 0 = .ok (.getstatic 44, 3) := by decide +kernel
theorem d_15_5_3 : decode prog_15_method_5_code 3 = .ok (.ifCond .ne 25, 3) := by decide +kernel
theorem d_15_5_6 : decode prog_15_method_5_code 6 = .ok (.iload_n 1, 1) := by decide +kernel
theorem d_15_5_7 : decode prog_15_method_5_code 7 = .ok (.ifCond .lt 11, 3) := by decide +kernel
theorem d_15_5_10 : decode prog_15_method_5_code 10 = .ok (.iload_n 1, 1) := by decide +kernel
theorem d_15_5_11 : decode prog_15_method_5_code 11 = .ok (.aload_n 0, 1) := by decide +kernel
theorem d_15_5_12 : decode prog_15_method_5_code 12 = .ok (.invokestatic 48, 3) := by decide +kernel
theorem d_15_5_15 : decode prog_15_method_5_code 15 = .ok (.if_icmp .lt 13, 3) := by decide +kernel
theorem d_15_5_18 : decode prog_15_method_5_code 18 = .ok (.new 52, 3) := by decide +kernel
theorem d_15_5_21 : decode prog_15_method_5_code 21 = .ok (.dup, 1) := by decide +kernel
theorem d_15_5_22 : decode prog_15_method_5_code 22 = .ok (.ldc 54, 2) := by decide +kernel
theorem d_15_5_24 : decode prog_15_method_5_code 24 = .ok (.invokespecial 56, 3) := by decide +kernel
