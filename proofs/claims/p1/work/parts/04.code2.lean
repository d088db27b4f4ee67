theorem d_1_8_21 : decode prog_1_method_8_code 21 = .ok (.aload_n 0, 1) := by decide +kernel
theorem d_1_8_22 : decode prog_1_method_8_code 22 = .ok (.getfield 57, 3) := by decide +kernel
theorem d_1_8_25 : decode prog_1_method_8_code 25 = .ok (.iload_n 1, 1) := by decide +kernel
theorem d_1_8_26 : decode prog_1_method_8_code 26 = .ok (.iload_n 2, 1) := by decide +kernel
theorem d_1_8_27 : decode prog_1_method_8_code 27 = .ok (.ishr, 1) := by decide +kernel
theorem d_1_8_28 : decode prog_1_method_8_code 28 = .ok (.i2b, 1) := by decide +kernel
theorem d_1_8_29 : decode prog_1_method_8_code 29 = .ok (.bastore, 1) := by decide +kernel
theorem d_1_8_30 : decode prog_1_method_8_code 30 = .ok (.aload_n 0, 1) := by decide +kernel
theorem d_1_8_31 : decode prog_1_method_8_code 31 = .ok (.dup, 1) := by decide +kernel
theorem d_1_8_32 : decode prog_1_method_8_code 32 = .ok (.getfield 57, 3) := by decide +kernel
theorem d_1_8_35 : decode prog_1_method_8_code 35 = .ok (.iconst 1, 1) := by decide +kernel
theorem d_1_8_36 : decode prog_1_method_8_code 36 = .ok (.iadd, 1) := by decide +kernel
theorem d_1_8_37 : decode prog_1_method_8_code 37 = .ok (.putfield 57, 3) := by decide +kernel
theorem d_1_8_40 : decode prog_1_method_8_code 40 = .ok (.iinc 2 (-8), 3) := by decide +kernel
theorem d_1_8_43 : decode prog_1_method_8_code 43 = .ok (.goto (-40), 3) := by decide +kernel
theorem d_1_8_46 : decode prog_1_method_8_code 46 = .ok (.return_, 1) := by decide +kernel
theorem d_2_19_0 : decode prog_2_method_19_code 0 = .ok (.iconst 0, 1) := by decide +kernel
theorem d_2_19_1 : decode prog_2_method_19_code 1 = .ok (.istore_n 1, 1) := by decide +kernel
theorem d_2_19_2 : decode prog_2_method_19_code 2 = .ok (.iload_n 1, 1) := by decide +kernel
theorem d_2_19_3 : decode prog_2_method_19_code 3 = .ok (.sipush 3001, 3) := by decide +kernel
theorem d_2_19_6 : decode prog_2_method_19_code 6 = .ok (.if_icmp .ge 35, 3) := by decide +kernel
theorem d_2_19_9 : decode prog_2_method_19_code 9 = .ok (.aload_n 0, 1) := by decide +kernel
theorem d_2_19_10 : decode prog_2_method_19_code 10 = .ok (.invokevirtual 176, 3) := by decide +kernel
theorem d_2_19_13 : decode prog_2_method_19_code 13 = .ok (.ifCond .eq 28, 3) := by decide +kernel
theorem d_2_19_41 : decode prog_2_method_19_code 41 = .ok (.aload_n 0, 1) := by decide +kernel
theorem d_2_19_42 : decode prog_2_method_19_code 42 = .ok (.invokevirtual 161, 3) := by decide +kernel
theorem d_2_19_45 : decode prog_2_method_19_code 45 = .ok (.return_, 1) := by decide +kernel
theorem d_2_1_0 : decode prog_2_method_1_code 0 = .ok (.aload_n 0, 1) := by decide +kernel
theorem d_2_1_1 : decode prog_2_method_1_code 1 = .ok (.invokespecial 3, 3) := by decide +kernel
theorem d_2_1_4 : decode prog_2_method_1_code 4 = .ok (.aload_n 0, 1) := by decide +kernel
theorem d_2_1_5 : decode prog_2_method_1_code 5 = .ok (.aload_n 1, 1) := by decide +kernel
theorem d_2_1_6 : decode prog_2_method_1_code 6 = .ok (.putfield 9, 3) := by decide +kernel
theorem d_2_1_9 : decode prog_2_method_1_code 9 = .ok (.aload_n 0, 1) := by decide +kernel
theorem d_2_1_10 : decode prog_2_method_1_code 10 = .ok (.aload_n 2, 1) := by decide +kernel
theorem d_2_1_11 : decode prog_2_method_1_code 11 = .ok (.putfield 15, 3) := by decide +kernel
theorem d_2_1_14 : decode prog_2_method_1_code 14 = .ok (.aload_n 0, 1) := by decide +kernel
theorem d_2_1_15 : decode prog_2_method_1_code 15 = .ok (.aload_n 3, 1) := by decide +kernel
theorem d_2_1_16 : decode prog_2_method_1_code 16 = .ok (.putfield 19, 3) := by decide +kernel
theorem d_2_1_19 : decode prog_2_method_1_code 19 = .ok (.aload_n 0, 1) := by decide +kernel
theorem d_2_1_20 : decode prog_2_method_1_code 20 = .ok (.new 23, 3) := by decide +kernel
theorem d_2_1_23 : decode prog_2_method_1_code 23 = .ok (.dup, 1) := by decide +kernel
theorem d_2_1_24 : decode prog_2_method_1_code 24 = .ok (.aload_n 1, 1) := by decide +kernel
theorem d_2_1_25 : decode prog_2_method_1_code 25 = .ok (.aload_n 2, 1) := by decide +kernel
theorem d_2_1_26 : decode prog_2_method_1_code 26 = .ok (.aload_n 3, 1) := by decide +kernel
theorem d_2_1_27 : decode prog_2_method_1_code 27 = .ok (.invokespecial 25, 3) := by decide +kernel
theorem d_2_1_30 : decode prog_2_method_1_code 30 = .ok (.putfield 28, 3) := by decide +kernel
theorem d_2_1_33 : decode prog_2_method_1_code 33 = .ok (.aload_n 0, 1) := by decide +kernel
theorem d_2_1_34 : decode prog_2_method_1_code 34 = .ok (.iconst 0, 1) := by decide +kernel
theorem d_2_1_35 : decode prog_2_method_1_code 35 = .ok (.putfield 32, 3) := by decide +kernel
theorem d_2_1_38 : decode prog_2_method_1_code 38 = .ok (.return_, 1) := by decide +kernel
theorem d_2_20_0 : decode prog_2_method_20_code 0 = .ok (.aload_n 0, 1) := by decide +kernel
theorem d_2_20_1 : decode prog_2_method_20_code 1 = .ok (.getfield 9, 3) := by decide +kernel
theorem d_2_20_4 : decode prog_2_method_20_code 4 = .ok (.bipush 27, 2) := by decide +kernel
theorem d_2_20_6 : decode prog_2_method_20_code 6 = .ok (.invokevirtual 44, 3) := by decide +kernel
theorem d_2_20_9 : decode prog_2_method_20_code 9 = .ok (.ifCond .eq 19, 3) := by decide +kernel
theorem d_2_20_28 : decode prog_2_method_20_code 28 = .ok (.iconst 0, 1) := by decide +kernel
theorem d_2_20_29 : decode prog_2_method_20_code 29 = .ok (.ireturn, 1) := by decide +kernel
theorem d_2_21_0 : decode prog_2_method_21_code 0 = .ok (.aload_n 0, 1) := by decide +kernel
theorem d_2_21_1 : decode prog_2_method_21_code 1 = .ok (.getfield 9, 3) := by decide +kernel
theorem d_2_21_4 : decode prog_2_method_21_code 4 = .ok (.invokevirtual 182, 3) := by decide +kernel
theorem d_2_21_7 : decode prog_2_method_21_code 7 = .ok (.lookupswitch 142 #[(1, 57), (11, 109), (14, 116), (19, 102), (26, 123), (27, 64)], 57) := by decide +kernel
theorem d_2_21_149 : decode prog_2_method_21_code 149 = .ok (.return_, 1) := by decide +kernel
theorem d_2_2_0 : decode prog_2_method_2_code 0 = .ok (.aload_n 0, 1) := by decide +kernel
theorem d_2_2_1 : decode prog_2_method_2_code 1 = .ok (.getfield 9, 3) := by decide +kernel
theorem d_2_2_4 : decode prog_2_method_2_code 4 = .ok (.invokevirtual 36, 3) := by decide +kernel
theorem d_2_2_7 : decode prog_2_method_2_code 7 = .ok (.aload_n 0, 1) := by decide +kernel
theorem d_2_2_8 : decode prog_2_method_2_code 8 = .ok (.iconst 0, 1) := by decide +kernel
theorem d_2_2_9 : decode prog_2_method_2_code 9 = .ok (.putfield 32, 3) := by decide +kernel
theorem d_2_2_12 : decode prog_2_method_2_code 12 = .ok (.aload_n 0, 1) := by decide +kernel
theorem d_2_2_13 : decode prog_2_method_2_code 13 = .ok (.invokevirtual 41, 3) := by decide +kernel
theorem d_2_2_16 : decode prog_2_method_2_code 16 = .ok (.aload_n 0, 1) := by decide +kernel
theorem d_2_2_17 : decode prog_2_method_2_code 17 = .ok (.getfield 9, 3) := by decide +kernel
theorem d_2_2_20 : decode prog_2_method_2_code 20 = .ok (.iconst 0, 1) := by decide +kernel
theorem d_2_2_21 : decode prog_2_method_2_code 21 = .ok (.invokevirtual 44, 3) := by decide +kernel
theorem d_2_2_24 : decode prog_2_method_2_code 24 = .ok (.ifCond .ne 10, 3) := by decide +kernel
theorem d_2_2_27 : decode prog_2_method_2_code 27 = .ok (.aload_n 0, 1) := by decide +kernel
theorem d_2_2_28 : decode prog_2_method_2_code 28 = .ok (.getfield 9, 3) := by decide +kernel
theorem d_2_2_31 : decode prog_2_method_2_code 31 = .ok (.invokevirtual 48, 3) := by decide +kernel
theorem d_2_2_34 : decode prog_2_method_2_code 34 = .ok (.return_, 1) := by decide +kernel
theorem d_2_3_0 : decode prog_2_method_3_code 0 = .ok (.aload_n 0, 1) := by decide +kernel
theorem d_2_3_1 : decode prog_2_method_3_code 1 = .ok (.getfield 9, 3) := by decide +kernel
theorem d_2_3_4 : decode prog_2_method_3_code 4 = .ok (.iconst 1, 1) := by decide +kernel
theorem d_2_3_5 : decode prog_2_method_3_code 5 = .ok (.invokevirtual 51, 3) := by decide +kernel
theorem d_2_3_8 : decode prog_2_method_3_code 8 = .ok (.aload_n 0, 1) := by decide +kernel
theorem d_2_3_9 : decode prog_2_method_3_code 9 = .ok (.getfield 15, 3) := by decide +kernel
theorem d_2_3_12 : decode prog_2_method_3_code 12 = .ok (.invokevirtual 55, 3) := by decide +kernel
theorem d_2_3_15 : decode prog_2_method_3_code 15 = .ok (.iconst 0, 1) := by decide +kernel
theorem d_2_3_16 : decode prog_2_method_3_code 16 = .ok (.istore_n 1, 1) := by decide +kernel
theorem d_2_3_17 : decode prog_2_method_3_code 17 = .ok (.iload_n 1, 1) := by decide +kernel
theorem d_2_3_18 : decode prog_2_method_3_code 18 = .ok (.sipush 3001, 3) := by decide +kernel
theorem d_2_3_21 : decode prog_2_method_3_code 21 = .ok (.if_icmp .ge 29, 3) := by decide +kernel
theorem d_2_3_24 : decode prog_2_method_3_code 24 = .ok (.aload_n 0, 1) := by decide +kernel
theorem d_2_3_25 : decode prog_2_method_3_code 25 = .ok (.invokevirtual 60, 3) := by decide +kernel
theorem d_2_3_28 : decode prog_2_method_3_code 28 = .ok (.ifCond .eq 22, 3) := by decide +kernel
theorem d_2_3_50 : decode prog_2_method_3_code 50 = .ok (.aload_n 0, 1) := by decide +kernel
theorem d_2_3_51 : decode prog_2_method_3_code 51 = .ok (.invokevirtual 70, 3) := by decide +kernel
theorem d_2_3_54 : decode prog_2_method_3_code 54 = .ok (.iconst 0, 1) := by decide +kernel
theorem d_2_3_55 : decode prog_2_method_3_code 55 = .ok (.istore_n 1, 1) := by decide +kernel
theorem d_2_3_56 : decode prog_2_method_3_code 56 = .ok (.iload_n 1, 1) := by decide +kernel
theorem d_2_3_57 : decode prog_2_method_3_code 57 = .ok (.sipush 3001, 3) := by decide +kernel
theorem d_2_3_60 : decode prog_2_method_3_code 60 = .ok (.if_icmp .ge 25, 3) := by decide +kernel
theorem d_2_3_63 : decode prog_2_method_3_code 63 = .ok (.aload_n 0, 1) := by decide +kernel
theorem d_2_3_64 : decode prog_2_method_3_code 64 = .ok (.getfield 9, 3) := by decide +kernel
theorem d_2_3_67 : decode prog_2_method_3_code 67 = .ok (.bipush 39, 2) := by decide +kernel
theorem d_2_3_69 : decode prog_2_method_3_code 69 = .ok (.invokevirtual 73, 3) := by decide +kernel
theorem d_2_3_72 : decode prog_2_method_3_code 72 = .ok (.ifCond .eq 13, 3) := by decide +kernel
theorem d_2_3_85 : decode prog_2_method_3_code 85 = .ok (.aload_n 0, 1) := by decide +kernel
theorem d_2_3_86 : decode prog_2_method_3_code 86 = .ok (.getfield 15, 3) := by decide +kernel
theorem d_2_3_89 : decode prog_2_method_3_code 89 = .ok (.invokevirtual 76, 3) := by decide +kernel
theorem d_2_3_92 : decode prog_2_method_3_code 92 = .ok (.aload_n 0, 1) := by decide +kernel
theorem d_2_3_93 : decode prog_2_method_3_code 93 = .ok (.getfield 9, 3) := by decide +kernel
theorem d_2_3_96 : decode prog_2_method_3_code 96 = .ok (.iconst 2, 1) := by decide +kernel
theorem d_2_3_97 : decode prog_2_method_3_code 97 = .ok (.invokevirtual 79, 3) := by decide +kernel
theorem d_2_3_100 : decode prog_2_method_3_code 100 = .ok (.return_, 1) := by decide +kernel
theorem d_2_4_0 : decode prog_2_method_4_code 0 = .ok (.aload_n 0, 1) := by decide +kernel
theorem d_2_4_1 : decode prog_2_method_4_code 1 = .ok (.invokevirtual 82, 3) := by decide +kernel
theorem d_2_4_4 : decode prog_2_method_4_code 4 = .ok (.ifCond .ne 39, 3) := by decide +kernel
theorem d_2_4_7 : decode prog_2_method_4_code 7 = .ok (.aload_n 0, 1) := by decide +kernel
theorem d_2_4_8 : decode prog_2_method_4_code 8 = .ok (.getfield 9, 3) := by decide +kernel
theorem d_2_4_11 : decode prog_2_method_4_code 11 = .ok (.bipush 8, 2) := by decide +kernel
theorem d_2_4_13 : decode prog_2_method_4_code 13 = .ok (.invokevirtual 44, 3) := by decide +kernel
theorem d_2_4_16 : decode prog_2_method_4_code 16 = .ok (.ifCond .ne 27, 3) := by decide +kernel
theorem d_2_4_19 : decode prog_2_method_4_code 19 = .ok (.aload_n 0, 1) := by decide +kernel
theorem d_2_4_20 : decode prog_2_method_4_code 20 = .ok (.getfield 9, 3) := by decide +kernel
theorem d_2_4_23 : decode prog_2_method_4_code 23 = .ok (.bipush 6, 2) := by decide +kernel
theorem d_2_4_25 : decode prog_2_method_4_code 25 = .ok (.invokevirtual 44, 3) := by decide +kernel
theorem d_2_4_28 : decode prog_2_method_4_code 28 = .ok (.ifCond .ne 15, 3) := by decide +kernel
theorem d_2_4_31 : decode prog_2_method_4_code 31 = .ok (.aload_n 0, 1) := by decide +kernel
theorem d_2_4_32 : decode prog_2_method_4_code 32 = .ok (.getfield 9, 3) := by decide +kernel
theorem d_2_4_35 : decode prog_2_method_4_code 35 = .ok (.bipush 9, 2) := by decide +kernel
theorem d_2_4_37 : decode prog_2_method_4_code 37 = .ok (.invokevirtual 44, 3) := by decide +kernel
theorem d_2_4_40 : decode prog_2_method_4_code 40 = .ok (.ifCond .eq 7, 3) := by decide +kernel
theorem d_2_4_47 : decode prog_2_method_4_code 47 = .ok (.iconst 0, 1) := by decide +kernel
theorem d_2_4_48 : decode prog_2_method_4_code 48 = .ok (.ireturn, 1) := by decide +kernel
theorem d_2_5_0 : decode prog_2_method_5_code 0 = .ok (.aload_n 0, 1) := by decide +kernel
theorem d_2_5_1 : decode prog_2_method_5_code 1 = .ok (.getfield 9, 3) := by decide +kernel
theorem d_2_5_4 : decode prog_2_method_5_code 4 = .ok (.iconst 3, 1) := by decide +kernel
theorem d_2_5_5 : decode prog_2_method_5_code 5 = .ok (.invokevirtual 44, 3) := by decide +kernel
theorem d_2_5_8 : decode prog_2_method_5_code 8 = .ok (.ifCond .ne 14, 3) := by decide +kernel
theorem d_2_5_11 : decode prog_2_method_5_code 11 = .ok (.aload_n 0, 1) := by decide +kernel
theorem d_2_5_12 : decode prog_2_method_5_code 12 = .ok (.getfield 9, 3) := by decide +kernel
theorem d_2_5_15 : decode prog_2_method_5_code 15 = .ok (.iconst 4, 1) := by decide +kernel
theorem d_2_5_16 : decode prog_2_method_5_code 16 = .ok (.invokevirtual 44, 3) := by decide +kernel
theorem d_2_5_19 : decode prog_2_method_5_code 19 = .ok (.ifCond .eq 7, 3) := by decide +kernel
theorem d_2_5_26 : decode prog_2_method_5_code 26 = .ok (.iconst 0, 1) := by decide +kernel
theorem d_2_5_27 : decode prog_2_method_5_code 27 = .ok (.ireturn, 1) := by decide +kernel
theorem d_3_1_0 : decode prog_3_method_1_code 0 = .ok (.aload_n 0, 1) := by decide +kernel
theorem d_3_1_1 : decode prog_3_method_1_code 1 = .ok (.invokespecial 3, 3) := by decide +kernel
theorem d_3_1_4 : decode prog_3_method_1_code 4 = .ok (.aload_n 0, 1) := by decide +kernel
theorem d_3_1_5 : decode prog_3_method_1_code 5 = .ok (.sipush 1501, 3) := by decide +kernel
theorem d_3_1_8 : decode prog_3_method_1_code 8 = .ok (.newarray .int, 2) := by decide +kernel
theorem d_3_1_10 : decode prog_3_method_1_code 10 = .ok (.putfield 9, 3) := by decide +kernel
theorem d_3_1_13 : decode prog_3_method_1_code 13 = .ok (.aload_n 0, 1) := by decide +kernel
theorem d_3_1_14 : decode prog_3_method_1_code 14 = .ok (.sipush 1501, 3) := by decide +kernel
theorem d_3_1_17 : decode prog_3_method_1_code 17 = .ok (.newarray .int, 2) := by decide +kernel
theorem d_3_1_19 : decode prog_3_method_1_code 19 = .ok (.putfield 15, 3) := by decide +kernel
theorem d_3_1_22 : decode prog_3_method_1_code 22 = .ok (.aload_n 0, 1) := by decide +kernel
theorem d_3_1_23 : decode prog_3_method_1_code 23 = .ok (.sipush 1501, 3) := by decide +kernel
theorem d_3_1_26 : decode prog_3_method_1_code 26 = .ok (.newarray .int, 2) := by decide +kernel
theorem d_3_1_28 : decode prog_3_method_1_code 28 = .ok (.putfield 18, 3) := by decide +kernel
theorem d_3_1_31 : decode prog_3_method_1_code 31 = .ok (.aload_n 0, 1) := by decide +kernel
theorem d_3_1_32 : decode prog_3_method_1_code 32 = .ok (.sipush 1501, 3) := by decide +kernel
theorem d_3_1_35 : decode prog_3_method_1_code 35 = .ok (.newarray .int, 2) := by decide +kernel
theorem d_3_1_37 : decode prog_3_method_1_code 37 = .ok (.putfield 21, 3) := by decide +kernel
theorem d_3_1_40 : decode prog_3_method_1_code 40 = .ok (.aload_n 0, 1) := by decide +kernel
theorem d_3_1_41 : decode prog_3_method_1_code 41 = .ok (.sipush 1501, 3) := by decide +kernel
theorem d_3_1_44 : decode prog_3_method_1_code 44 = .ok (.newarray .int, 2) := by decide +kernel
theorem d_3_1_46 : decode prog_3_method_1_code 46 = .ok (.putfield 24, 3) := by decide +kernel
theorem d_3_1_49 : decode prog_3_method_1_code 49 = .ok (.aload_n 0, 1) := by decide +kernel
theorem d_3_1_50 : decode prog_3_method_1_code 50 = .ok (.sipush 3000, 3) := by decide +kernel
theorem d_3_1_53 : decode prog_3_method_1_code 53 = .ok (.newarray .int, 2) := by decide +kernel
theorem d_3_1_55 : decode prog_3_method_1_code 55 = .ok (.putfield 27, 3) := by decide +kernel
theorem d_3_1_58 : decode prog_3_method_1_code 58 = .ok (.aload_n 0, 1) := by decide +kernel
theorem d_3_1_59 : decode prog_3_method_1_code 59 = .ok (.sipush 1501, 3) := by decide +kernel
theorem d_3_1_62 : decode prog_3_method_1_code 62 = .ok (.newarray .int, 2) := by decide +kernel
theorem d_3_1_64 : decode prog_3_method_1_code 64 = .ok (.putfield 30, 3) := by decide +kernel
theorem d_3_1_67 : decode prog_3_method_1_code 67 = .ok (.aload_n 0, 1) := by decide +kernel
theorem d_3_1_68 : decode prog_3_method_1_code 68 = .ok (.iconst 0, 1) := by decide +kernel
theorem d_3_1_69 : decode prog_3_method_1_code 69 = .ok (.putfield 33, 3) := by decide +kernel
theorem d_3_1_72 : decode prog_3_method_1_code 72 = .ok (.aload_n 0, 1) := by decide +kernel
theorem d_3_1_73 : decode prog_3_method_1_code 73 = .ok (.iconst 0, 1) := by decide +kernel
theorem d_3_1_74 : decode prog_3_method_1_code 74 = .ok (.putfield 37, 3) := by decide +kernel
theorem d_3_1_77 : decode prog_3_method_1_code 77 = .ok (.return_, 1) := by decide +kernel
theorem d_3_2_0 : decode prog_3_method_2_code 0 = .ok (.aload_n 0, 1) := by decide +kernel
theorem d_3_2_1 : decode prog_3_method_2_code 1 = .ok (.getfield 33, 3) := by decide +kernel
theorem d_3_2_4 : decode prog_3_method_2_code 4 = .ok (.ifCond .eq 10, 3) := by decide +kernel
theorem d_3_2_14 : decode prog_3_method_2_code 14 = .ok (.bipush (-2), 2) := by decide +kernel
theorem d_3_2_16 : decode prog_3_method_2_code 16 = .ok (.ireturn, 1) := by decide +kernel
theorem d_3_3_0 : decode prog_3_method_3_code 0 = .ok (.aload_n 0, 1) := by decide +kernel
theorem d_3_3_1 : decode prog_3_method_3_code 1 = .ok (.getfield 33, 3) := by decide +kernel
theorem d_3_3_4 : decode prog_3_method_3_code 4 = .ok (.ifCond .eq 15, 3) := by decide +kernel
theorem d_3_3_19 : decode prog_3_method_3_code 19 = .ok (.bipush (-2), 2) := by decide +kernel
theorem d_3_3_21 : decode prog_3_method_3_code 21 = .ok (.ireturn, 1) := by decide +kernel
theorem d_3_4_0 : decode prog_3_method_4_code 0 = .ok (.aload_n 0, 1) := by decide +kernel
theorem d_3_4_1 : decode prog_3_method_4_code 1 = .ok (.getfield 33, 3) := by decide +kernel
theorem d_3_4_4 : decode prog_3_method_4_code 4 = .ok (.ifCond .eq 23, 3) := by decide +kernel
theorem d_3_4_27 : decode prog_3_method_4_code 27 = .ok (.bipush (-2), 2) := by decide +kernel
theorem d_3_4_29 : decode prog_3_method_4_code 29 = .ok (.ireturn, 1) := by decide +kernel
theorem d_4_1_0 : decode prog_4_method_1_code 0 = .ok (.aload_n 0, 1) := by decide +kernel
theorem d_4_1_1 : decode prog_4_method_1_code 1 = .ok (.invokespecial 3, 3) := by decide +kernel
theorem d_4_1_4 : decode prog_4_method_1_code 4 = .ok (.aload_n 0, 1) := by decide +kernel
theorem d_4_1_5 : decode prog_4_method_1_code 5 = .ok (.aload_n 1, 1) := by decide +kernel
theorem d_4_1_6 : decode prog_4_method_1_code 6 = .ok (.putfield 9, 3) := by decide +kernel
theorem d_4_1_9 : decode prog_4_method_1_code 9 = .ok (.aload_n 0, 1) := by decide +kernel
theorem d_4_1_10 : decode prog_4_method_1_code 10 = .ok (.aload_n 2, 1) := by decide +kernel
theorem d_4_1_11 : decode prog_4_method_1_code 11 = .ok (.putfield 15, 3) := by decide +kernel
theorem d_4_1_14 : decode prog_4_method_1_code 14 = .ok (.aload_n 0, 1) := by decide +kernel
theorem d_4_1_15 : decode prog_4_method_1_code 15 = .ok (.aload_n 3, 1) := by decide +kernel
theorem d_4_1_16 : decode prog_4_method_1_code 16 = .ok (.putfield 19, 3) := by decide +kernel
theorem d_4_1_19 : decode prog_4_method_1_code 19 = .ok (.return_, 1) := by decide +kernel
theorem d_5_1_0 : decode prog_5_method_1_code 0 = .ok (.aload_n 0, 1) := by decide +kernel
theorem d_5_1_1 : decode prog_5_method_1_code 1 = .ok (.invokespecial 3, 3) := by decide +kernel
theorem d_5_1_4 : decode prog_5_method_1_code 4 = .ok (.aload_n 0, 1) := by decide +kernel
theorem d_5_1_5 : decode prog_5_method_1_code 5 = .ok (.aload_n 1, 1) := by decide +kernel
theorem d_5_1_6 : decode prog_5_method_1_code 6 = .ok (.putfield 9, 3) := by decide +kernel
theorem d_5_1_9 : decode prog_5_method_1_code 9 = .ok (.aload_n 0, 1) := by decide +kernel
theorem d_5_1_10 : decode prog_5_method_1_code 10 = .ok (.aload_n 2, 1) := by decide +kernel
theorem d_5_1_11 : decode prog_5_method_1_code 11 = .ok (.putfield 15, 3) := by decide +kernel
theorem d_5_1_14 : decode prog_5_method_1_code 14 = .ok (.return_, 1) := by decide +kernel
theorem d_6_12_0 : decode prog_6_method_12_code 0 = .ok (.aload_n 0, 1) := by decide +kernel
theorem d_6_12_1 : decode prog_6_method_12_code 1 = .ok (.aload_n 0, 1) := by decide +kernel
theorem d_6_12_2 : decode prog_6_method_12_code 2 = .ok (.aload_n 0, 1) := by decide +kernel
theorem d_6_12_3 : decode prog_6_method_12_code 3 = .ok (.getfield 42, 3) := by decide +kernel
theorem d_6_12_6 : decode prog_6_method_12_code 6 = .ok (.invokevirtual 69, 3) := by decide +kernel
theorem d_6_12_9 : decode prog_6_method_12_code 9 = .ok (.invokevirtual 76, 3) := by decide +kernel
theorem d_6_12_12 : decode prog_6_method_12_code 12 = .ok (.return_, 1) := by decide +kernel
theorem d_6_14_0 : decode prog_6_method_14_code 0 = .ok (.aload_n 0, 1) := by decide +kernel
theorem d_6_14_1 : decode prog_6_method_14_code 1 = .ok (.getfield 39, 3) := by decide +kernel
theorem d_6_14_4 : decode prog_6_method_14_code 4 = .ok (.sipush 333, 3) := by decide +kernel
theorem d_6_14_7 : decode prog_6_method_14_code 7 = .ok (.if_icmp .lt 11, 3) := by decide +kernel
theorem d_6_14_18 : decode prog_6_method_14_code 18 = .ok (.aload_n 0, 1) := by decide +kernel
theorem d_6_14_19 : decode prog_6_method_14_code 19 = .ok (.getfield 51, 3) := by decide +kernel
theorem d_6_14_22 : decode prog_6_method_14_code 22 = .ok (.ifCond .ne 56, 3) := by decide +kernel
theorem d_6_14_25 : decode prog_6_method_14_code 25 = .ok (.aload_n 0, 1) := by decide +kernel
theorem d_6_14_26 : decode prog_6_method_14_code 26 = .ok (.getfield 19, 3) := by decide +kernel
theorem d_6_14_29 : decode prog_6_method_14_code 29 = .ok (.aload_n 0, 1) := by decide +kernel
theorem d_6_14_30 : decode prog_6_method_14_code 30 = .ok (.getfield 39, 3) := by decide +kernel
theorem d_6_14_33 : decode prog_6_method_14_code 33 = .ok (.aload_n 0, 1) := by decide +kernel
theorem d_6_14_34 : decode prog_6_method_14_code 34 = .ok (.getfield 42, 3) := by decide +kernel
theorem d_6_14_37 : decode prog_6_method_14_code 37 = .ok (.iastore, 1) := by decide +kernel
theorem d_6_14_38 : decode prog_6_method_14_code 38 = .ok (.aload_n 0, 1) := by decide +kernel
theorem d_6_14_39 : decode prog_6_method_14_code 39 = .ok (.getfield 23, 3) := by decide +kernel
theorem d_6_14_42 : decode prog_6_method_14_code 42 = .ok (.aload_n 0, 1) := by decide +kernel
theorem d_6_14_43 : decode prog_6_method_14_code 43 = .ok (.getfield 39, 3) := by decide +kernel
theorem d_6_14_46 : decode prog_6_method_14_code 46 = .ok (.iconst (-1), 1) := by decide +kernel
theorem d_6_14_47 : decode prog_6_method_14_code 47 = .ok (.iastore, 1) := by decide +kernel
theorem d_6_14_48 : decode prog_6_method_14_code 48 = .ok (.aload_n 0, 1) := by decide +kernel
theorem d_6_14_49 : decode prog_6_method_14_code 49 = .ok (.getfield 26, 3) := by decide +kernel
theorem d_6_14_52 : decode prog_6_method_14_code 52 = .ok (.aload_n 0, 1) := by decide +kernel
theorem d_6_14_53 : decode prog_6_method_14_code 53 = .ok (.getfield 39, 3) := by decide +kernel
theorem d_6_14_56 : decode prog_6_method_14_code 56 = .ok (.iconst (-1), 1) := by decide +kernel
theorem d_6_14_57 : decode prog_6_method_14_code 57 = .ok (.iastore, 1) := by decide +kernel
theorem d_6_14_58 : decode prog_6_method_14_code 58 = .ok (.aload_n 0, 1) := by decide +kernel
theorem d_6_14_59 : decode prog_6_method_14_code 59 = .ok (.getfield 29, 3) := by decide +kernel
theorem d_6_14_62 : decode prog_6_method_14_code 62 = .ok (.aload_n 0, 1) := by decide +kernel
theorem d_6_14_63 : decode prog_6_method_14_code 63 = .ok (.getfield 39, 3) := by decide +kernel
theorem d_6_14_66 : decode prog_6_method_14_code 66 = .ok (.iload_n 1, 1) := by decide +kernel
theorem d_6_14_67 : decode prog_6_method_14_code 67 = .ok (.iastore, 1) := by decide +kernel
theorem d_6_14_68 : decode prog_6_method_14_code 68 = .ok (.aload_n 0, 1) := by decide +kernel
theorem d_6_14_69 : decode prog_6_method_14_code 69 = .ok (.aload_n 0, 1) := by decide +kernel
theorem d_6_14_70 : decode prog_6_method_14_code 70 = .ok (.getfield 39, 3) := by decide +kernel
theorem d_6_14_73 : decode prog_6_method_14_code 73 = .ok (.iconst 1, 1) := by decide +kernel
theorem d_6_14_74 : decode prog_6_method_14_code 74 = .ok (.iadd, 1) := by decide +kernel
theorem d_6_14_75 : decode prog_6_method_14_code 75 = .ok (.putfield 35, 3) := by decide +kernel
theorem d_6_14_78 : decode prog_6_method_14_code 78 = .ok (.aload_n 0, 1) := by decide +kernel
theorem d_6_14_79 : decode prog_6_method_14_code 79 = .ok (.aload_n 0, 1) := by decide +kernel
theorem d_6_14_80 : decode prog_6_method_14_code 80 = .ok (.getfield 39, 3) := by decide +kernel
theorem d_6_14_83 : decode prog_6_method_14_code 83 = .ok (.putfield 42, 3) := by decide +kernel
theorem d_6_14_86 : decode prog_6_method_14_code 86 = .ok (.aload_n 0, 1) := by decide +kernel
theorem d_6_14_87 : decode prog_6_method_14_code 87 = .ok (.aload_n 0, 1) := by decide +kernel
theorem d_6_14_88 : decode prog_6_method_14_code 88 = .ok (.getfield 39, 3) := by decide +kernel
theorem d_6_14_91 : decode prog_6_method_14_code 91 = .ok (.putfield 45, 3) := by decide +kernel
theorem d_6_14_94 : decode prog_6_method_14_code 94 = .ok (.aload_n 0, 1) := by decide +kernel
theorem d_6_14_95 : decode prog_6_method_14_code 95 = .ok (.dup, 1) := by decide +kernel
theorem d_6_14_96 : decode prog_6_method_14_code 96 = .ok (.getfield 39, 3) := by decide +kernel
theorem d_6_14_99 : decode prog_6_method_14_code 99 = .ok (.iconst 1, 1) := by decide +kernel
theorem d_6_14_100 : decode prog_6_method_14_code 100 = .ok (.iadd, 1) := by decide +kernel
theorem d_6_14_101 : decode prog_6_method_14_code 101 = .ok (.putfield 39, 3) := by decide +kernel
theorem d_6_14_104 : decode prog_6_method_14_code 104 = .ok (.return_, 1) := by decide +kernel
theorem d_6_15_0 : decode prog_6_method_15_code 0 = .ok (.aload_n 0, 1) := by decide +kernel
theorem d_6_15_1 : decode prog_6_method_15_code 1 = .ok (.aload_n 0, 1) := by decide +kernel
theorem d_6_15_2 : decode prog_6_method_15_code 2 = .ok (.aload_n 0, 1) := by decide +kernel
theorem d_6_15_3 : decode prog_6_method_15_code 3 = .ok (.getfield 42, 3) := by decide +kernel
theorem d_6_15_6 : decode prog_6_method_15_code 6 = .ok (.invokevirtual 89, 3) := by decide +kernel
theorem d_6_15_9 : decode prog_6_method_15_code 9 = .ok (.putfield 42, 3) := by decide +kernel
theorem d_6_15_12 : decode prog_6_method_15_code 12 = .ok (.aload_n 0, 1) := by decide +kernel
theorem d_6_15_13 : decode prog_6_method_15_code 13 = .ok (.aload_n 0, 1) := by decide +kernel
theorem d_6_15_14 : decode prog_6_method_15_code 14 = .ok (.getfield 42, 3) := by decide +kernel
theorem d_6_15_17 : decode prog_6_method_15_code 17 = .ok (.putfield 45, 3) := by decide +kernel
theorem d_6_15_20 : decode prog_6_method_15_code 20 = .ok (.return_, 1) := by decide +kernel
theorem d_6_1_0 : decode prog_6_method_1_code 0 = .ok (.aload_n 0, 1) := by decide +kernel
theorem d_6_1_1 : decode prog_6_method_1_code 1 = .ok (.invokespecial 3, 3) := by decide +kernel
theorem d_6_1_4 : decode prog_6_method_1_code 4 = .ok (.aload_n 0, 1) := by decide +kernel
theorem d_6_1_5 : decode prog_6_method_1_code 5 = .ok (.aload_n 1, 1) := by decide +kernel
theorem d_6_1_6 : decode prog_6_method_1_code 6 = .ok (.putfield 9, 3) := by decide +kernel
theorem d_6_1_9 : decode prog_6_method_1_code 9 = .ok (.aload_n 0, 1) := by decide +kernel
theorem d_6_1_10 : decode prog_6_method_1_code 10 = .ok (.aload_n 2, 1) := by decide +kernel
theorem d_6_1_11 : decode prog_6_method_1_code 11 = .ok (.putfield 15, 3) := by decide +kernel
theorem d_6_1_14 : decode prog_6_method_1_code 14 = .ok (.aload_n 0, 1) := by decide +kernel
theorem d_6_1_15 : decode prog_6_method_1_code 15 = .ok (.sipush 333, 3) := by decide +kernel
theorem d_6_1_18 : decode prog_6_method_1_code 18 = .ok (.newarray .int, 2) := by decide +kernel
theorem d_6_1_20 : decode prog_6_method_1_code 20 = .ok (.putfield 19, 3) := by decide +kernel
theorem d_6_1_23 : decode prog_6_method_1_code 23 = .ok (.aload_n 0, 1) := by decide +kernel
theorem d_6_1_24 : decode prog_6_method_1_code 24 = .ok (.sipush 333, 3) := by decide +kernel
theorem d_6_1_27 : decode prog_6_method_1_code 27 = .ok (.newarray .int, 2) := by decide +kernel
theorem d_6_1_29 : decode prog_6_method_1_code 29 = .ok (.putfield 23, 3) := by decide +kernel
theorem d_6_1_32 : decode prog_6_method_1_code 32 = .ok (.aload_n 0, 1) := by decide +kernel
theorem d_6_1_33 : decode prog_6_method_1_code 33 = .ok (.sipush 333, 3) := by decide +kernel
theorem d_6_1_36 : decode prog_6_method_1_code 36 = .ok (.newarray .int, 2) := by decide +kernel
theorem d_6_1_38 : decode prog_6_method_1_code 38 = .ok (.putfield 26, 3) := by decide +kernel
theorem d_6_1_41 : decode prog_6_method_1_code 41 = .ok (.aload_n 0, 1) := by decide +kernel
theorem d_6_1_42 : decode prog_6_method_1_code 42 = .ok (.sipush 333, 3) := by decide +kernel
theorem d_6_1_45 : decode prog_6_method_1_code 45 = .ok (.newarray .int, 2) := by decide +kernel
theorem d_6_1_47 : decode prog_6_method_1_code 47 = .ok (.putfield 29, 3) := by decide +kernel
theorem d_6_1_50 : decode prog_6_method_1_code 50 = .ok (.aload_n 0, 1) := by decide +kernel
theorem d_6_1_51 : decode prog_6_method_1_code 51 = .ok (.sipush 3000, 3) := by decide +kernel
theorem d_6_1_54 : decode prog_6_method_1_code 54 = .ok (.newarray .int, 2) := by decide +kernel
theorem d_6_1_56 : decode prog_6_method_1_code 56 = .ok (.putfield 32, 3) := by decide +kernel
theorem d_6_1_59 : decode prog_6_method_1_code 59 = .ok (.aload_n 0, 1) := by decide +kernel
theorem d_6_1_60 : decode prog_6_method_1_code 60 = .ok (.iconst 0, 1) := by decide +kernel
theorem d_6_1_61 : decode prog_6_method_1_code 61 = .ok (.putfield 35, 3) := by decide +kernel
theorem d_6_1_64 : decode prog_6_method_1_code 64 = .ok (.aload_n 0, 1) := by decide +kernel
theorem d_6_1_65 : decode prog_6_method_1_code 65 = .ok (.iconst 0, 1) := by decide +kernel
theorem d_6_1_66 : decode prog_6_method_1_code 66 = .ok (.putfield 39, 3) := by decide +kernel
theorem d_6_1_69 : decode prog_6_method_1_code 69 = .ok (.aload_n 0, 1) := by decide +kernel
theorem d_6_1_70 : decode prog_6_method_1_code 70 = .ok (.iconst (-1), 1) := by decide +kernel
theorem d_6_1_71 : decode prog_6_method_1_code 71 = .ok (.putfield 42, 3) := by decide +kernel
theorem d_6_1_74 : decode prog_6_method_1_code 74 = .ok (.aload_n 0, 1) := by decide +kernel
theorem d_6_1_75 : decode prog_6_method_1_code 75 = .ok (.iconst (-1), 1) := by decide +kernel
theorem d_6_1_76 : decode prog_6_method_1_code 76 = .ok (.putfield 45, 3) := by decide +kernel
theorem d_6_1_79 : decode prog_6_method_1_code 79 = .ok (.aload_n 0, 1) := by decide +kernel
theorem d_6_1_80 : decode prog_6_method_1_code 80 = .ok (.sipush 3001, 3) := by decide +kernel
theorem d_6_1_83 : decode prog_6_method_1_code 83 = .ok (.putfield 48, 3) := by decide +kernel
theorem d_6_1_86 : decode prog_6_method_1_code 86 = .ok (.aload_n 0, 1) := by decide +kernel
theorem d_6_1_87 : decode prog_6_method_1_code 87 = .ok (.iconst 0, 1) := by decide +kernel
theorem d_6_1_88 : decode prog_6_method_1_code 88 = .ok (.putfield 51, 3) := by decide +kernel
theorem d_6_1_91 : decode prog_6_method_1_code 91 = .ok (.return_, 1) := by decide +kernel
theorem d_6_2_0 : decode prog_6_method_2_code 0 = .ok (.aload_n 0, 1) := by decide +kernel
theorem d_6_2_1 : decode prog_6_method_2_code 1 = .ok (.getfield 15, 3) := by decide +kernel
theorem d_6_2_4 : decode prog_6_method_2_code 4 = .ok (.invokevirtual 55, 3) := by decide +kernel
theorem d_6_2_7 : decode prog_6_method_2_code 7 = .ok (.aload_n 0, 1) := by decide +kernel
theorem d_6_2_8 : decode prog_6_method_2_code 8 = .ok (.getfield 32, 3) := by decide +kernel
theorem d_6_2_11 : decode prog_6_method_2_code 11 = .ok (.iconst (-1), 1) := by decide +kernel
theorem d_6_2_12 : decode prog_6_method_2_code 12 = .ok (.invokestatic 60, 3) := by decide +kernel
theorem d_6_2_15 : decode prog_6_method_2_code 15 = .ok (.aload_n 0, 1) := by decide +kernel
theorem d_6_2_16 : decode prog_6_method_2_code 16 = .ok (.iconst 0, 1) := by decide +kernel
theorem d_6_2_17 : decode prog_6_method_2_code 17 = .ok (.putfield 35, 3) := by decide +kernel
theorem d_6_2_20 : decode prog_6_method_2_code 20 = .ok (.aload_n 0, 1) := by decide +kernel
theorem d_6_2_21 : decode prog_6_method_2_code 21 = .ok (.sipush 3001, 3) := by decide +kernel
theorem d_6_2_24 : decode prog_6_method_2_code 24 = .ok (.putfield 48, 3) := by decide +kernel
theorem d_6_2_27 : decode prog_6_method_2_code 27 = .ok (.aload_n 0, 1) := by decide +kernel
theorem d_6_2_28 : decode prog_6_method_2_code 28 = .ok (.iconst 0, 1) := by decide +kernel
theorem d_6_2_29 : decode prog_6_method_2_code 29 = .ok (.putfield 51, 3) := by decide +kernel
theorem d_6_2_32 : decode prog_6_method_2_code 32 = .ok (.aload_n 0, 1) := by decide +kernel
theorem d_6_2_33 : decode prog_6_method_2_code 33 = .ok (.invokevirtual 66, 3) := by decide +kernel
theorem d_6_2_36 : decode prog_6_method_2_code 36 = .ok (.return_, 1) := by decide +kernel
theorem d_6_4_0 : decode prog_6_method_4_code 0 = .ok (.aload_n 0, 1) := by decide +kernel
theorem d_6_4_1 : decode prog_6_method_4_code 1 = .ok (.iconst 0, 1) := by decide +kernel
theorem d_6_4_2 : decode prog_6_method_4_code 2 = .ok (.putfield 39, 3) := by decide +kernel
theorem d_6_4_5 : decode prog_6_method_4_code 5 = .ok (.aload_n 0, 1) := by decide +kernel
theorem d_6_4_6 : decode prog_6_method_4_code 6 = .ok (.iconst (-1), 1) := by decide +kernel
theorem d_6_4_7 : decode prog_6_method_4_code 7 = .ok (.putfield 42, 3) := by decide +kernel
theorem d_6_4_10 : decode prog_6_method_4_code 10 = .ok (.aload_n 0, 1) := by decide +kernel
theorem d_6_4_11 : decode prog_6_method_4_code 11 = .ok (.iconst (-1), 1) := by decide +kernel
theorem d_6_4_12 : decode prog_6_method_4_code 12 = .ok (.putfield 45, 3) := by decide +kernel
theorem d_6_4_15 : decode prog_6_method_4_code 15 = .ok (.return_, 1) := by decide +kernel
theorem d_6_8_0 : decode prog_6_method_8_code 0 = .ok (.iload_n 1, 1) := by decide +kernel
theorem d_6_8_1 : decode prog_6_method_8_code 1 = .ok (.ifCond .lt 20, 3) := by decide +kernel
theorem d_6_8_4 : decode prog_6_method_8_code 4 = .ok (.iload_n 1, 1) := by decide +kernel
theorem d_6_8_5 : decode prog_6_method_8_code 5 = .ok (.aload_n 0, 1) := by decide +kernel
theorem d_6_8_6 : decode prog_6_method_8_code 6 = .ok (.getfield 35, 3) := by decide +kernel
theorem d_6_8_9 : decode prog_6_method_8_code 9 = .ok (.if_icmp .ge 12, 3) := by decide +kernel
theorem d_6_8_12 : decode prog_6_method_8_code 12 = .ok (.aload_n 0, 1) := by decide +kernel
theorem d_6_8_13 : decode prog_6_method_8_code 13 = .ok (.getfield 19, 3) := by decide +kernel
theorem d_6_8_16 : decode prog_6_method_8_code 16 = .ok (.iload_n 1, 1) := by decide +kernel
theorem d_6_8_17 : decode prog_6_method_8_code 17 = .ok (.iaload, 1) := by decide +kernel
theorem d_6_8_18 : decode prog_6_method_8_code 18 = .ok (.goto 4, 3) := by decide +kernel
theorem d_6_8_22 : decode prog_6_method_8_code 22 = .ok (.ireturn, 1) := by decide +kernel
theorem d_6_9_0 : decode prog_6_method_9_code 0 = .ok (.iload_n 1, 1) := by decide +kernel
theorem d_6_9_1 : decode prog_6_method_9_code 1 = .ok (.ifCond .lt 20, 3) := by decide +kernel
theorem d_6_9_21 : decode prog_6_method_9_code 21 = .ok (.iconst (-1), 1) := by decide +kernel
theorem d_6_9_22 : decode prog_6_method_9_code 22 = .ok (.ireturn, 1) := by decide +kernel
theorem d_7_1_0 : decode prog_7_method_1_code 0 = .ok (.aload_n 0, 1) := by decide +kernel
theorem d_7_1_1 : decode prog_7_method_1_code 1 = .ok (.invokespecial 3, 3) := by decide +kernel
theorem d_7_1_4 : decode prog_7_method_1_code 4 = .ok (.aload_n 0, 1) := by decide +kernel
theorem d_7_1_5 : decode prog_7_method_1_code 5 = .ok (.sipush 1501, 3) := by decide +kernel
theorem d_7_1_8 : decode prog_7_method_1_code 8 = .ok (.newarray .long, 2) := by decide +kernel
theorem d_7_1_10 : decode prog_7_method_1_code 10 = .ok (.putfield 9, 3) := by decide +kernel
theorem d_7_1_13 : decode prog_7_method_1_code 13 = .ok (.aload_n 0, 1) := by decide +kernel
theorem d_7_1_14 : decode prog_7_method_1_code 14 = .ok (.sipush 1501, 3) := by decide +kernel
theorem d_7_1_17 : decode prog_7_method_1_code 17 = .ok (.newarray .int, 2) := by decide +kernel
theorem d_7_1_19 : decode prog_7_method_1_code 19 = .ok (.putfield 15, 3) := by decide +kernel
theorem d_7_1_22 : decode prog_7_method_1_code 22 = .ok (.aload_n 0, 1) := by decide +kernel
theorem d_7_1_23 : decode prog_7_method_1_code 23 = .ok (.sipush 1501, 3) := by decide +kernel
theorem d_7_1_26 : decode prog_7_method_1_code 26 = .ok (.newarray .int, 2) := by decide +kernel
theorem d_7_1_28 : decode prog_7_method_1_code 28 = .ok (.putfield 19, 3) := by decide +kernel
theorem d_7_1_31 : decode prog_7_method_1_code 31 = .ok (.aload_n 0, 1) := by decide +kernel
theorem d_7_1_32 : decode prog_7_method_1_code 32 = .ok (.sipush 1501, 3) := by decide +kernel
theorem d_7_1_35 : decode prog_7_method_1_code 35 = .ok (.newarray .int, 2) := by decide +kernel
theorem d_7_1_37 : decode prog_7_method_1_code 37 = .ok (.putfield 22, 3) := by decide +kernel
