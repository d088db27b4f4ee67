theorem d_10_69_43 : decode prog_10_method_69_code 43 = .ok (.iconst 0, 1) := by decide +kernel
theorem d_10_69_44 : decode prog_10_method_69_code 44 = .ok (.istore 7, 2) := by decide +kernel
theorem d_10_69_46 : decode prog_10_method_69_code 46 = .ok (.iload 7, 2) := by decide +kernel
theorem d_10_69_48 : decode prog_10_method_69_code 48 = .ok (.bipush 20, 2) := by decide +kernel
theorem d_10_69_50 : decode prog_10_method_69_code 50 = .ok (.if_icmp .ge 40, 3) := by decide +kernel
theorem d_10_69_53 : decode prog_10_method_69_code 53 = .ok (.aload_n 0, 1) := by decide +kernel
theorem d_10_69_54 : decode prog_10_method_69_code 54 = .ok (.getfield 15, 3) := by decide +kernel
theorem d_10_69_57 : decode prog_10_method_69_code 57 = .ok (.aload_n 0, 1) := by decide +kernel
theorem d_10_69_58 : decode prog_10_method_69_code 58 = .ok (.getfield 478, 3) := by decide +kernel
theorem d_10_69_61 : decode prog_10_method_69_code 61 = .ok (.iload 7, 2) := by decide +kernel
theorem d_10_69_63 : decode prog_10_method_69_code 63 = .ok (.iadd, 1) := by decide +kernel
theorem d_10_69_64 : decode prog_10_method_69_code 64 = .ok (.aload 6, 2) := by decide +kernel
theorem d_10_69_66 : decode prog_10_method_69_code 66 = .ok (.iload 7, 2) := by decide +kernel
theorem d_10_69_68 : decode prog_10_method_69_code 68 = .ok (.iconst 4, 1) := by decide +kernel
theorem d_10_69_69 : decode prog_10_method_69_code 69 = .ok (.idiv, 1) := by decide +kernel
theorem d_10_69_70 : decode prog_10_method_69_code 70 = .ok (.iaload, 1) := by decide +kernel
theorem d_10_69_71 : decode prog_10_method_69_code 71 = .ok (.bipush 24, 2) := by decide +kernel
theorem d_10_69_73 : decode prog_10_method_69_code 73 = .ok (.bipush 8, 2) := by decide +kernel
theorem d_10_69_75 : decode prog_10_method_69_code 75 = .ok (.iload 7, 2) := by decide +kernel
theorem d_10_69_77 : decode prog_10_method_69_code 77 = .ok (.iconst 4, 1) := by decide +kernel
theorem d_10_69_78 : decode prog_10_method_69_code 78 = .ok (.irem, 1) := by decide +kernel
theorem d_10_69_79 : decode prog_10_method_69_code 79 = .ok (.imul, 1) := by decide +kernel
theorem d_10_69_80 : decode prog_10_method_69_code 80 = .ok (.isub, 1) := by decide +kernel
theorem d_10_69_81 : decode prog_10_method_69_code 81 = .ok (.ishr, 1) := by decide +kernel
theorem d_10_69_82 : decode prog_10_method_69_code 82 = .ok (.i2b, 1) := by decide +kernel
theorem d_10_69_83 : decode prog_10_method_69_code 83 = .ok (.bastore, 1) := by decide +kernel
theorem d_10_69_84 : decode prog_10_method_69_code 84 = .ok (.iinc 7 1, 3) := by decide +kernel
theorem d_10_69_87 : decode prog_10_method_69_code 87 = .ok (.goto (-41), 3) := by decide +kernel
theorem d_10_69_90 : decode prog_10_method_69_code 90 = .ok (.aload_n 0, 1) := by decide +kernel
theorem d_10_69_91 : decode prog_10_method_69_code 91 = .ok (.dup, 1) := by decide +kernel
theorem d_10_69_92 : decode prog_10_method_69_code 92 = .ok (.getfield 478, 3) := by decide +kernel
theorem d_10_69_95 : decode prog_10_method_69_code 95 = .ok (.bipush 20, 2) := by decide +kernel
theorem d_10_69_97 : decode prog_10_method_69_code 97 = .ok (.iadd, 1) := by decide +kernel
theorem d_10_69_98 : decode prog_10_method_69_code 98 = .ok (.putfield 478, 3) := by decide +kernel
theorem d_10_69_101 : decode prog_10_method_69_code 101 = .ok (.aload_n 0, 1) := by decide +kernel
theorem d_10_69_102 : decode prog_10_method_69_code 102 = .ok (.getfield 478, 3) := by decide +kernel
theorem d_10_69_105 : decode prog_10_method_69_code 105 = .ok (.ireturn, 1) := by decide +kernel
theorem d_10_6_0 : decode prog_10_method_6_code 0 = .ok (.aload_n 0, 1) := by decide +kernel
theorem d_10_6_1 : decode prog_10_method_6_code 1 = .ok (.getfield 23, 3) := by decide +kernel
theorem d_10_6_4 : decode prog_10_method_6_code 4 = .ok (.iload_n 1, 1) := by decide +kernel
theorem d_10_6_5 : decode prog_10_method_6_code 5 = .ok (.iaload, 1) := by decide +kernel
theorem d_10_6_6 : decode prog_10_method_6_code 6 = .ok (.iconst 2, 1) := by decide +kernel
theorem d_10_6_7 : decode prog_10_method_6_code 7 = .ok (.if_icmp .eq 13, 3) := by decide +kernel
theorem d_10_6_10 : decode prog_10_method_6_code 10 = .ok (.aload_n 0, 1) := by decide +kernel
theorem d_10_6_11 : decode prog_10_method_6_code 11 = .ok (.getfield 23, 3) := by decide +kernel
theorem d_10_6_14 : decode prog_10_method_6_code 14 = .ok (.iload_n 1, 1) := by decide +kernel
theorem d_10_6_15 : decode prog_10_method_6_code 15 = .ok (.iaload, 1) := by decide +kernel
theorem d_10_6_16 : decode prog_10_method_6_code 16 = .ok (.iconst 4, 1) := by decide +kernel
theorem d_10_6_17 : decode prog_10_method_6_code 17 = .ok (.if_icmp .ne 23, 3) := by decide +kernel
theorem d_10_6_40 : decode prog_10_method_6_code 40 = .ok (.iconst 0, 1) := by decide +kernel
theorem d_10_6_41 : decode prog_10_method_6_code 41 = .ok (.ireturn, 1) := by decide +kernel
theorem d_10_70_0 : decode prog_10_method_70_code 0 = .ok (.iload_n 1, 1) := by decide +kernel
theorem d_10_70_1 : decode prog_10_method_70_code 1 = .ok (.i2l, 1) := by decide +kernel
theorem d_10_70_2 : decode prog_10_method_70_code 2 = .ok (.lconst 0, 1) := by decide +kernel
theorem d_10_70_3 : decode prog_10_method_70_code 3 = .ok (.aload_n 0, 1) := by decide +kernel
theorem d_10_70_4 : decode prog_10_method_70_code 4 = .ok (.getfield 478, 3) := by decide +kernel
theorem d_10_70_7 : decode prog_10_method_70_code 7 = .ok (.i2l, 1) := by decide +kernel
theorem d_10_70_8 : decode prog_10_method_70_code 8 = .ok (.invokestatic 481, 3) := by decide +kernel
theorem d_10_70_11 : decode prog_10_method_70_code 11 = .ok (.ifCond .ne 5, 3) := by decide +kernel
theorem d_10_70_14 : decode prog_10_method_70_code 14 = .ok (.iconst (-1), 1) := by decide +kernel
theorem d_10_70_15 : decode prog_10_method_70_code 15 = .ok (.ireturn, 1) := by decide +kernel
theorem d_10_70_16 : decode prog_10_method_70_code 16 = .ok (.aload_n 0, 1) := by decide +kernel
theorem d_10_70_17 : decode prog_10_method_70_code 17 = .ok (.iload_n 1, 1) := by decide +kernel
theorem d_10_70_18 : decode prog_10_method_70_code 18 = .ok (.putfield 478, 3) := by decide +kernel
theorem d_10_70_21 : decode prog_10_method_70_code 21 = .ok (.iload_n 1, 1) := by decide +kernel
theorem d_10_70_22 : decode prog_10_method_70_code 22 = .ok (.ireturn, 1) := by decide +kernel
theorem d_10_71_0 : decode prog_10_method_71_code 0 = .ok (.aload_n 0, 1) := by decide +kernel
theorem d_10_71_1 : decode prog_10_method_71_code 1 = .ok (.aload_n 0, 1) := by decide +kernel
theorem d_10_71_2 : decode prog_10_method_71_code 2 = .ok (.getfield 478, 3) := by decide +kernel
theorem d_10_71_5 : decode prog_10_method_71_code 5 = .ok (.invokevirtual 485, 3) := by decide +kernel
theorem d_10_71_8 : decode prog_10_method_71_code 8 = .ok (.aload_n 0, 1) := by decide +kernel
theorem d_10_71_9 : decode prog_10_method_71_code 9 = .ok (.iconst 0, 1) := by decide +kernel
theorem d_10_71_10 : decode prog_10_method_71_code 10 = .ok (.putfield 478, 3) := by decide +kernel
theorem d_10_71_13 : decode prog_10_method_71_code 13 = .ok (.aload_n 0, 1) := by decide +kernel
theorem d_10_71_14 : decode prog_10_method_71_code 14 = .ok (.getfield 140, 3) := by decide +kernel
theorem d_10_71_17 : decode prog_10_method_71_code 17 = .ok (.iconst 0, 1) := by decide +kernel
theorem d_10_71_18 : decode prog_10_method_71_code 18 = .ok (.invokestatic 488, 3) := by decide +kernel
theorem d_10_71_21 : decode prog_10_method_71_code 21 = .ok (.aload_n 0, 1) := by decide +kernel
theorem d_10_71_22 : decode prog_10_method_71_code 22 = .ok (.iconst 0, 1) := by decide +kernel
theorem d_10_71_23 : decode prog_10_method_71_code 23 = .ok (.putfield 58, 3) := by decide +kernel
theorem d_10_71_26 : decode prog_10_method_71_code 26 = .ok (.aload_n 0, 1) := by decide +kernel
theorem d_10_71_27 : decode prog_10_method_71_code 27 = .ok (.iconst 0, 1) := by decide +kernel
theorem d_10_71_28 : decode prog_10_method_71_code 28 = .ok (.putfield 69, 3) := by decide +kernel
theorem d_10_71_31 : decode prog_10_method_71_code 31 = .ok (.aload_n 0, 1) := by decide +kernel
theorem d_10_71_32 : decode prog_10_method_71_code 32 = .ok (.iconst 0, 1) := by decide +kernel
theorem d_10_71_33 : decode prog_10_method_71_code 33 = .ok (.putfield 112, 3) := by decide +kernel
theorem d_10_71_36 : decode prog_10_method_71_code 36 = .ok (.aload_n 0, 1) := by decide +kernel
theorem d_10_71_37 : decode prog_10_method_71_code 37 = .ok (.iconst (-1), 1) := by decide +kernel
theorem d_10_71_38 : decode prog_10_method_71_code 38 = .ok (.putfield 96, 3) := by decide +kernel
theorem d_10_71_41 : decode prog_10_method_71_code 41 = .ok (.aload_n 0, 1) := by decide +kernel
theorem d_10_71_42 : decode prog_10_method_71_code 42 = .ok (.iconst (-1), 1) := by decide +kernel
theorem d_10_71_43 : decode prog_10_method_71_code 43 = .ok (.putfield 99, 3) := by decide +kernel
theorem d_10_71_46 : decode prog_10_method_71_code 46 = .ok (.aload_n 0, 1) := by decide +kernel
theorem d_10_71_47 : decode prog_10_method_71_code 47 = .ok (.iconst 0, 1) := by decide +kernel
theorem d_10_71_48 : decode prog_10_method_71_code 48 = .ok (.putfield 109, 3) := by decide +kernel
theorem d_10_71_51 : decode prog_10_method_71_code 51 = .ok (.aload_n 0, 1) := by decide +kernel
theorem d_10_71_52 : decode prog_10_method_71_code 52 = .ok (.iconst (-1), 1) := by decide +kernel
theorem d_10_71_53 : decode prog_10_method_71_code 53 = .ok (.putfield 190, 3) := by decide +kernel
theorem d_10_71_56 : decode prog_10_method_71_code 56 = .ok (.aload_n 0, 1) := by decide +kernel
theorem d_10_71_57 : decode prog_10_method_71_code 57 = .ok (.getfield 247, 3) := by decide +kernel
theorem d_10_71_60 : decode prog_10_method_71_code 60 = .ok (.iconst 0, 1) := by decide +kernel
theorem d_10_71_61 : decode prog_10_method_71_code 61 = .ok (.iconst 0, 1) := by decide +kernel
theorem d_10_71_62 : decode prog_10_method_71_code 62 = .ok (.iastore, 1) := by decide +kernel
theorem d_10_71_63 : decode prog_10_method_71_code 63 = .ok (.aload_n 0, 1) := by decide +kernel
theorem d_10_71_64 : decode prog_10_method_71_code 64 = .ok (.getfield 129, 3) := by decide +kernel
theorem d_10_71_67 : decode prog_10_method_71_code 67 = .ok (.iconst 0, 1) := by decide +kernel
theorem d_10_71_68 : decode prog_10_method_71_code 68 = .ok (.iconst (-1), 1) := by decide +kernel
theorem d_10_71_69 : decode prog_10_method_71_code 69 = .ok (.iastore, 1) := by decide +kernel
theorem d_10_71_70 : decode prog_10_method_71_code 70 = .ok (.aload_n 0, 1) := by decide +kernel
theorem d_10_71_71 : decode prog_10_method_71_code 71 = .ok (.getfield 153, 3) := by decide +kernel
theorem d_10_71_74 : decode prog_10_method_71_code 74 = .ok (.iconst 0, 1) := by decide +kernel
theorem d_10_71_75 : decode prog_10_method_71_code 75 = .ok (.iconst 0, 1) := by decide +kernel
theorem d_10_71_76 : decode prog_10_method_71_code 76 = .ok (.iastore, 1) := by decide +kernel
theorem d_10_71_77 : decode prog_10_method_71_code 77 = .ok (.aload_n 0, 1) := by decide +kernel
theorem d_10_71_78 : decode prog_10_method_71_code 78 = .ok (.getfield 174, 3) := by decide +kernel
theorem d_10_71_81 : decode prog_10_method_71_code 81 = .ok (.iconst 0, 1) := by decide +kernel
theorem d_10_71_82 : decode prog_10_method_71_code 82 = .ok (.iconst (-1), 1) := by decide +kernel
theorem d_10_71_83 : decode prog_10_method_71_code 83 = .ok (.iastore, 1) := by decide +kernel
theorem d_10_71_84 : decode prog_10_method_71_code 84 = .ok (.aload_n 0, 1) := by decide +kernel
theorem d_10_71_85 : decode prog_10_method_71_code 85 = .ok (.iconst 0, 1) := by decide +kernel
theorem d_10_71_86 : decode prog_10_method_71_code 86 = .ok (.putfield 93, 3) := by decide +kernel
theorem d_10_71_89 : decode prog_10_method_71_code 89 = .ok (.aload_n 0, 1) := by decide +kernel
theorem d_10_71_90 : decode prog_10_method_71_code 90 = .ok (.iconst 1, 1) := by decide +kernel
theorem d_10_71_91 : decode prog_10_method_71_code 91 = .ok (.putfield 171, 3) := by decide +kernel
theorem d_10_71_94 : decode prog_10_method_71_code 94 = .ok (.aload_n 0, 1) := by decide +kernel
theorem d_10_71_95 : decode prog_10_method_71_code 95 = .ok (.invokevirtual 298, 3) := by decide +kernel
theorem d_10_71_98 : decode prog_10_method_71_code 98 = .ok (.istore_n 1, 1) := by decide +kernel
theorem d_10_71_99 : decode prog_10_method_71_code 99 = .ok (.iload_n 1, 1) := by decide +kernel
theorem d_10_71_100 : decode prog_10_method_71_code 100 = .ok (.ifCond .lt 20, 3) := by decide +kernel
theorem d_10_71_120 : decode prog_10_method_71_code 120 = .ok (.aload_n 0, 1) := by decide +kernel
theorem d_10_71_121 : decode prog_10_method_71_code 121 = .ok (.getfield 96, 3) := by decide +kernel
theorem d_10_71_124 : decode prog_10_method_71_code 124 = .ok (.ifCond .lt 8, 3) := by decide +kernel
theorem d_10_71_127 : decode prog_10_method_71_code 127 = .ok (.aload_n 0, 1) := by decide +kernel
theorem d_10_71_128 : decode prog_10_method_71_code 128 = .ok (.getfield 96, 3) := by decide +kernel
theorem d_10_71_131 : decode prog_10_method_71_code 131 = .ok (.ireturn, 1) := by decide +kernel
theorem d_10_74_0 : decode prog_10_method_74_code 0 = .ok (.aload_n 0, 1) := by decide +kernel
theorem d_10_74_1 : decode prog_10_method_74_code 1 = .ok (.getfield 475, 3) := by decide +kernel
theorem d_10_74_4 : decode prog_10_method_74_code 4 = .ok (.ifCond .ge 8, 3) := by decide +kernel
theorem d_10_74_7 : decode prog_10_method_74_code 7 = .ok (.bipush (-2), 2) := by decide +kernel
theorem d_10_74_9 : decode prog_10_method_74_code 9 = .ok (.goto 7, 3) := by decide +kernel
theorem d_10_74_16 : decode prog_10_method_74_code 16 = .ok (.ireturn, 1) := by decide +kernel
theorem d_10_75_0 : decode prog_10_method_75_code 0 = .ok (.iload_n 2, 1) := by decide +kernel
theorem d_10_75_1 : decode prog_10_method_75_code 1 = .ok (.i2l, 1) := by decide +kernel
theorem d_10_75_2 : decode prog_10_method_75_code 2 = .ok (.lconst 0, 1) := by decide +kernel
theorem d_10_75_3 : decode prog_10_method_75_code 3 = .ok (.ldc2_w 506, 3) := by decide +kernel
theorem d_10_75_6 : decode prog_10_method_75_code 6 = .ok (.invokestatic 481, 3) := by decide +kernel
theorem d_10_75_9 : decode prog_10_method_75_code 9 = .ok (.ifCond .ne 5, 3) := by decide +kernel
theorem d_10_75_12 : decode prog_10_method_75_code 12 = .ok (.iconst (-1), 1) := by decide +kernel
theorem d_10_75_13 : decode prog_10_method_75_code 13 = .ok (.ireturn, 1) := by decide +kernel
theorem d_10_75_14 : decode prog_10_method_75_code 14 = .ok (.iload_n 1, 1) := by decide +kernel
theorem d_10_75_15 : decode prog_10_method_75_code 15 = .ok (.i2l, 1) := by decide +kernel
theorem d_10_75_16 : decode prog_10_method_75_code 16 = .ok (.lconst 0, 1) := by decide +kernel
theorem d_10_75_17 : decode prog_10_method_75_code 17 = .ok (.aload_n 0, 1) := by decide +kernel
theorem d_10_75_18 : decode prog_10_method_75_code 18 = .ok (.getfield 475, 3) := by decide +kernel
theorem d_10_75_21 : decode prog_10_method_75_code 21 = .ok (.iconst 1, 1) := by decide +kernel
theorem d_10_75_22 : decode prog_10_method_75_code 22 = .ok (.isub, 1) := by decide +kernel
theorem d_10_75_23 : decode prog_10_method_75_code 23 = .ok (.i2l, 1) := by decide +kernel
theorem d_10_75_24 : decode prog_10_method_75_code 24 = .ok (.invokestatic 481, 3) := by decide +kernel
theorem d_10_75_27 : decode prog_10_method_75_code 27 = .ok (.ifCond .eq 16, 3) := by decide +kernel
theorem d_10_75_43 : decode prog_10_method_75_code 43 = .ok (.bipush (-2), 2) := by decide +kernel
theorem d_10_75_45 : decode prog_10_method_75_code 45 = .ok (.ireturn, 1) := by decide +kernel
theorem d_10_76_0 : decode prog_10_method_76_code 0 = .ok (.aload_n 0, 1) := by decide +kernel
theorem d_10_76_1 : decode prog_10_method_76_code 1 = .ok (.getfield 475, 3) := by decide +kernel
theorem d_10_76_4 : decode prog_10_method_76_code 4 = .ok (.ifCond .lt 15, 3) := by decide +kernel
theorem d_10_76_19 : decode prog_10_method_76_code 19 = .ok (.bipush (-2), 2) := by decide +kernel
theorem d_10_76_21 : decode prog_10_method_76_code 21 = .ok (.goto 9, 3) := by decide +kernel
theorem d_10_76_30 : decode prog_10_method_76_code 30 = .ok (.ireturn, 1) := by decide +kernel
theorem d_10_7_0 : decode prog_10_method_7_code 0 = .ok (.aload_n 0, 1) := by decide +kernel
theorem d_10_7_1 : decode prog_10_method_7_code 1 = .ok (.aload_n 0, 1) := by decide +kernel
theorem d_10_7_2 : decode prog_10_method_7_code 2 = .ok (.getfield 58, 3) := by decide +kernel
theorem d_10_7_5 : decode prog_10_method_7_code 5 = .ok (.aload_n 1, 1) := by decide +kernel
theorem d_10_7_6 : decode prog_10_method_7_code 6 = .ok (.invokevirtual 62, 3) := by decide +kernel
theorem d_10_7_9 : decode prog_10_method_7_code 9 = .ok (.ireturn, 1) := by decide +kernel
theorem d_13_152_0 : decode prog_13_method_152_code 0 = .ok (.getstatic 38, 3) := by decide +kernel
theorem d_13_152_3 : decode prog_13_method_152_code 3 = .ok (.ifCond .eq 10, 3) := by decide +kernel
theorem d_13_152_6 : decode prog_13_method_152_code 6 = .ok (.aload_n 0, 1) := by decide +kernel
theorem d_13_152_7 : decode prog_13_method_152_code 7 = .ok (.getfield 15, 3) := by decide +kernel
theorem d_13_152_10 : decode prog_13_method_152_code 10 = .ok (.goto 4, 3) := by decide +kernel
theorem d_13_152_14 : decode prog_13_method_152_code 14 = .ok (.ireturn, 1) := by decide +kernel
theorem d_13_154_0 : decode prog_13_method_154_code 0 = .ok (.getstatic 38, 3) := by decide +kernel
theorem d_13_154_3 : decode prog_13_method_154_code 3 = .ok (.ifCond .eq 14, 3) := by decide +kernel
theorem d_13_154_6 : decode prog_13_method_154_code 6 = .ok (.aload_n 0, 1) := by decide +kernel
theorem d_13_154_7 : decode prog_13_method_154_code 7 = .ok (.getfield 15, 3) := by decide +kernel
theorem d_13_154_10 : decode prog_13_method_154_code 10 = .ok (.ifCond .ne 7, 3) := by decide +kernel
theorem d_13_154_13 : decode prog_13_method_154_code 13 = .ok (.iconst 1, 1) := by decide +kernel
theorem d_13_154_14 : decode prog_13_method_154_code 14 = .ok (.goto 4, 3) := by decide +kernel
theorem d_13_154_18 : decode prog_13_method_154_code 18 = .ok (.ireturn, 1) := by decide +kernel
theorem d_13_155_0 : decode prog_13_method_155_code 0 = .ok (.iload_n 0, 1) := by decide +kernel
theorem d_13_155_1 : decode prog_13_method_155_code 1 = .ok (.iload_n 1, 1) := by decide +kernel
theorem d_13_155_2 : decode prog_13_method_155_code 2 = .ok (.getstatic 1053, 3) := by decide +kernel
theorem d_13_155_5 : decode prog_13_method_155_code 5 = .ok (.invokestatic 1059, 3) := by decide +kernel
theorem d_13_155_8 : decode prog_13_method_155_code 8 = .ok (.pop, 1) := by decide +kernel
theorem d_13_155_9 : decode prog_13_method_155_code 9 = .ok (.return_, 1) := by decide +kernel
theorem d_13_54_0 : decode prog_13_method_54_code 0 = .ok (.aload_n 0, 1) := by decide +kernel
theorem d_13_54_1 : decode prog_13_method_54_code 1 = .ok (.getfield 9, 3) := by decide +kernel
theorem d_13_54_4 : decode prog_13_method_54_code 4 = .ok (.arraylength, 1) := by decide +kernel
theorem d_13_54_5 : decode prog_13_method_54_code 5 = .ok (.aload_n 0, 1) := by decide +kernel
theorem d_13_54_6 : decode prog_13_method_54_code 6 = .ok (.invokevirtual 335, 3) := by decide +kernel
theorem d_13_54_9 : decode prog_13_method_54_code 9 = .ok (.ishr, 1) := by decide +kernel
theorem d_13_54_10 : decode prog_13_method_54_code 10 = .ok (.ireturn, 1) := by decide +kernel
theorem d_13_56_0 : decode prog_13_method_56_code 0 = .ok (.aload_n 0, 1) := by decide +kernel
theorem d_13_56_1 : decode prog_13_method_56_code 1 = .ok (.invokevirtual 492, 3) := by decide +kernel
theorem d_13_56_4 : decode prog_13_method_56_code 4 = .ok (.ifCond .eq 12, 3) := by decide +kernel
theorem d_13_56_7 : decode prog_13_method_56_code 7 = .ok (.aload_n 0, 1) := by decide +kernel
theorem d_13_56_8 : decode prog_13_method_56_code 8 = .ok (.getfield 9, 3) := by decide +kernel
theorem d_13_56_11 : decode prog_13_method_56_code 11 = .ok (.iload_n 1, 1) := by decide +kernel
theorem d_13_56_12 : decode prog_13_method_56_code 12 = .ok (.invokestatic 495, 3) := by decide +kernel
theorem d_13_56_15 : decode prog_13_method_56_code 15 = .ok (.ireturn, 1) := by decide +kernel
theorem d_14_2_0 : decode prog_14_method_2_code 0 = .ok (.iload_n 1, 1) := by decide +kernel
theorem d_14_2_1 : decode prog_14_method_2_code 1 = .ok (.aload_n 0, 1) := by decide +kernel
theorem d_14_2_2 : decode prog_14_method_2_code 2 = .ok (.arraylength, 1) := by decide +kernel
theorem d_14_2_3 : decode prog_14_method_2_code 3 = .ok (.invokestatic 9, 3) := by decide +kernel
theorem d_14_2_6 : decode prog_14_method_2_code 6 = .ok (.aload_n 0, 1) := by decide +kernel
theorem d_14_2_7 : decode prog_14_method_2_code 7 = .ok (.iload_n 1, 1) := by decide +kernel
theorem d_14_2_8 : decode prog_14_method_2_code 8 = .ok (.baload, 1) := by decide +kernel
theorem d_14_2_9 : decode prog_14_method_2_code 9 = .ok (.sipush 255, 3) := by decide +kernel
theorem d_14_2_12 : decode prog_14_method_2_code 12 = .ok (.iand, 1) := by decide +kernel
theorem d_14_2_13 : decode prog_14_method_2_code 13 = .ok (.i2c, 1) := by decide +kernel
theorem d_14_2_14 : decode prog_14_method_2_code 14 = .ok (.ireturn, 1) := by decide +kernel
theorem d_16_103_0 : decode prog_16_method_103_code 0 = .ok (.iconst 0, 1) := by decide +kernel
theorem d_16_103_1 : decode prog_16_method_103_code 1 = .ok (.istore_n 2, 1) := by decide +kernel
theorem d_16_103_2 : decode prog_16_method_103_code 2 = .ok (.aload_n 0, 1) := by decide +kernel
theorem d_16_103_3 : decode prog_16_method_103_code 3 = .ok (.arraylength, 1) := by decide +kernel
theorem d_16_103_4 : decode prog_16_method_103_code 4 = .ok (.istore_n 3, 1) := by decide +kernel
theorem d_16_103_5 : decode prog_16_method_103_code 5 = .ok (.iload_n 2, 1) := by decide +kernel
theorem d_16_103_6 : decode prog_16_method_103_code 6 = .ok (.iload_n 3, 1) := by decide +kernel
theorem d_16_103_7 : decode prog_16_method_103_code 7 = .ok (.if_icmp .ge 13, 3) := by decide +kernel
theorem d_16_103_10 : decode prog_16_method_103_code 10 = .ok (.aload_n 0, 1) := by decide +kernel
theorem d_16_103_11 : decode prog_16_method_103_code 11 = .ok (.iload_n 2, 1) := by decide +kernel
theorem d_16_103_12 : decode prog_16_method_103_code 12 = .ok (.iload_n 1, 1) := by decide +kernel
theorem d_16_103_13 : decode prog_16_method_103_code 13 = .ok (.iastore, 1) := by decide +kernel
theorem d_16_103_14 : decode prog_16_method_103_code 14 = .ok (.iinc 2 1, 3) := by decide +kernel
theorem d_16_103_17 : decode prog_16_method_103_code 17 = .ok (.goto (-12), 3) := by decide +kernel
theorem d_16_103_20 : decode prog_16_method_103_code 20 = .ok (.return_, 1) := by decide +kernel
theorem d_16_111_0 : decode prog_16_method_111_code 0 = .ok (.iconst 0, 1) := by decide +kernel
theorem d_16_111_1 : decode prog_16_method_111_code 1 = .ok (.istore_n 2, 1) := by decide +kernel
theorem d_16_111_2 : decode prog_16_method_111_code 2 = .ok (.aload_n 0, 1) := by decide +kernel
theorem d_16_111_3 : decode prog_16_method_111_code 3 = .ok (.arraylength, 1) := by decide +kernel
theorem d_16_111_4 : decode prog_16_method_111_code 4 = .ok (.istore_n 3, 1) := by decide +kernel
theorem d_16_111_5 : decode prog_16_method_111_code 5 = .ok (.iload_n 2, 1) := by decide +kernel
theorem d_16_111_6 : decode prog_16_method_111_code 6 = .ok (.iload_n 3, 1) := by decide +kernel
theorem d_16_111_7 : decode prog_16_method_111_code 7 = .ok (.if_icmp .ge 13, 3) := by decide +kernel
theorem d_16_111_10 : decode prog_16_method_111_code 10 = .ok (.aload_n 0, 1) := by decide +kernel
theorem d_16_111_11 : decode prog_16_method_111_code 11 = .ok (.iload_n 2, 1) := by decide +kernel
theorem d_16_111_12 : decode prog_16_method_111_code 12 = .ok (.iload_n 1, 1) := by decide +kernel
theorem d_16_111_13 : decode prog_16_method_111_code 13 = .ok (.bastore, 1) := by decide +kernel
theorem d_16_111_14 : decode prog_16_method_111_code 14 = .ok (.iinc 2 1, 3) := by decide +kernel
theorem d_16_111_17 : decode prog_16_method_111_code 17 = .ok (.goto (-12), 3) := by decide +kernel
theorem d_16_111_20 : decode prog_16_method_111_code 20 = .ok (.return_, 1) := by decide +kernel
theorem d_17_11_0 : decode prog_17_method_11_code 0 = .ok (.iload_n 0, 1) := by decide +kernel
theorem d_17_11_1 : decode prog_17_method_11_code 1 = .ok (.ifCond .lt 8, 3) := by decide +kernel
theorem d_17_11_4 : decode prog_17_method_11_code 4 = .ok (.iload_n 0, 1) := by decide +kernel
theorem d_17_11_5 : decode prog_17_method_11_code 5 = .ok (.iload_n 1, 1) := by decide +kernel
theorem d_17_11_6 : decode prog_17_method_11_code 6 = .ok (.if_icmp .lt 10, 3) := by decide +kernel
theorem d_17_11_16 : decode prog_17_method_11_code 16 = .ok (.iload_n 0, 1) := by decide +kernel
theorem d_17_11_17 : decode prog_17_method_11_code 17 = .ok (.ireturn, 1) := by decide +kernel
theorem d_1_1_0 : decode prog_1_method_1_code 0 = .ok (.aload_n 0, 1) := by decide +kernel
theorem d_1_1_1 : decode prog_1_method_1_code 1 = .ok (.invokespecial 3, 3) := by decide +kernel
theorem d_1_1_4 : decode prog_1_method_1_code 4 = .ok (.new 9, 3) := by decide +kernel
theorem d_1_1_7 : decode prog_1_method_1_code 7 = .ok (.dup, 1) := by decide +kernel
theorem d_1_1_8 : decode prog_1_method_1_code 8 = .ok (.invokespecial 11, 3) := by decide +kernel
theorem d_1_1_11 : decode prog_1_method_1_code 11 = .ok (.astore_n 1, 1) := by decide +kernel
theorem d_1_1_12 : decode prog_1_method_1_code 12 = .ok (.new 12, 3) := by decide +kernel
theorem d_1_1_15 : decode prog_1_method_1_code 15 = .ok (.dup, 1) := by decide +kernel
theorem d_1_1_16 : decode prog_1_method_1_code 16 = .ok (.invokespecial 14, 3) := by decide +kernel
theorem d_1_1_19 : decode prog_1_method_1_code 19 = .ok (.astore_n 2, 1) := by decide +kernel
theorem d_1_1_20 : decode prog_1_method_1_code 20 = .ok (.new 15, 3) := by decide +kernel
theorem d_1_1_23 : decode prog_1_method_1_code 23 = .ok (.dup, 1) := by decide +kernel
theorem d_1_1_24 : decode prog_1_method_1_code 24 = .ok (.aload_n 1, 1) := by decide +kernel
theorem d_1_1_25 : decode prog_1_method_1_code 25 = .ok (.aload_n 2, 1) := by decide +kernel
theorem d_1_1_26 : decode prog_1_method_1_code 26 = .ok (.invokespecial 17, 3) := by decide +kernel
theorem d_1_1_29 : decode prog_1_method_1_code 29 = .ok (.astore_n 3, 1) := by decide +kernel
theorem d_1_1_30 : decode prog_1_method_1_code 30 = .ok (.aload_n 0, 1) := by decide +kernel
theorem d_1_1_31 : decode prog_1_method_1_code 31 = .ok (.sipush 3000, 3) := by decide +kernel
theorem d_1_1_34 : decode prog_1_method_1_code 34 = .ok (.newarray .byte, 2) := by decide +kernel
theorem d_1_1_36 : decode prog_1_method_1_code 36 = .ok (.putfield 20, 3) := by decide +kernel
theorem d_1_1_39 : decode prog_1_method_1_code 39 = .ok (.aload_n 0, 1) := by decide +kernel
theorem d_1_1_40 : decode prog_1_method_1_code 40 = .ok (.aload_n 1, 1) := by decide +kernel
theorem d_1_1_41 : decode prog_1_method_1_code 41 = .ok (.putfield 24, 3) := by decide +kernel
theorem d_1_1_44 : decode prog_1_method_1_code 44 = .ok (.aload_n 0, 1) := by decide +kernel
theorem d_1_1_45 : decode prog_1_method_1_code 45 = .ok (.aload_n 2, 1) := by decide +kernel
theorem d_1_1_46 : decode prog_1_method_1_code 46 = .ok (.putfield 28, 3) := by decide +kernel
theorem d_1_1_49 : decode prog_1_method_1_code 49 = .ok (.aload_n 0, 1) := by decide +kernel
theorem d_1_1_50 : decode prog_1_method_1_code 50 = .ok (.aload_n 3, 1) := by decide +kernel
theorem d_1_1_51 : decode prog_1_method_1_code 51 = .ok (.putfield 32, 3) := by decide +kernel
theorem d_1_1_54 : decode prog_1_method_1_code 54 = .ok (.aload_n 0, 1) := by decide +kernel
theorem d_1_1_55 : decode prog_1_method_1_code 55 = .ok (.new 36, 3) := by decide +kernel
theorem d_1_1_58 : decode prog_1_method_1_code 58 = .ok (.dup, 1) := by decide +kernel
theorem d_1_1_59 : decode prog_1_method_1_code 59 = .ok (.aload_n 1, 1) := by decide +kernel
theorem d_1_1_60 : decode prog_1_method_1_code 60 = .ok (.aload_n 3, 1) := by decide +kernel
theorem d_1_1_61 : decode prog_1_method_1_code 61 = .ok (.new 38, 3) := by decide +kernel
theorem d_1_1_64 : decode prog_1_method_1_code 64 = .ok (.dup, 1) := by decide +kernel
theorem d_1_1_65 : decode prog_1_method_1_code 65 = .ok (.aload_n 2, 1) := by decide +kernel
theorem d_1_1_66 : decode prog_1_method_1_code 66 = .ok (.aload_n 3, 1) := by decide +kernel
theorem d_1_1_67 : decode prog_1_method_1_code 67 = .ok (.invokespecial 40, 3) := by decide +kernel
theorem d_1_1_70 : decode prog_1_method_1_code 70 = .ok (.invokespecial 43, 3) := by decide +kernel
theorem d_1_1_73 : decode prog_1_method_1_code 73 = .ok (.putfield 46, 3) := by decide +kernel
theorem d_1_1_76 : decode prog_1_method_1_code 76 = .ok (.aload_n 0, 1) := by decide +kernel
theorem d_1_1_77 : decode prog_1_method_1_code 77 = .ok (.new 50, 3) := by decide +kernel
theorem d_1_1_80 : decode prog_1_method_1_code 80 = .ok (.dup, 1) := by decide +kernel
theorem d_1_1_81 : decode prog_1_method_1_code 81 = .ok (.invokespecial 52, 3) := by decide +kernel
theorem d_1_1_84 : decode prog_1_method_1_code 84 = .ok (.putfield 53, 3) := by decide +kernel
theorem d_1_1_87 : decode prog_1_method_1_code 87 = .ok (.aload_n 0, 1) := by decide +kernel
theorem d_1_1_88 : decode prog_1_method_1_code 88 = .ok (.iconst 0, 1) := by decide +kernel
theorem d_1_1_89 : decode prog_1_method_1_code 89 = .ok (.putfield 57, 3) := by decide +kernel
theorem d_1_1_92 : decode prog_1_method_1_code 92 = .ok (.return_, 1) := by decide +kernel
theorem d_1_2_0 : decode prog_1_method_2_code 0 = .ok (.aload_n 0, 1) := by decide +kernel
theorem d_1_2_1 : decode prog_1_method_2_code 1 = .ok (.getfield 57, 3) := by decide +kernel
theorem d_1_2_4 : decode prog_1_method_2_code 4 = .ok (.bipush 20, 2) := by decide +kernel
theorem d_1_2_6 : decode prog_1_method_2_code 6 = .ok (.iadd, 1) := by decide +kernel
theorem d_1_2_7 : decode prog_1_method_2_code 7 = .ok (.sipush 3000, 3) := by decide +kernel
theorem d_1_2_10 : decode prog_1_method_2_code 10 = .ok (.if_icmp .le 6, 3) := by decide +kernel
theorem d_1_2_16 : decode prog_1_method_2_code 16 = .ok (.aload_n 0, 1) := by decide +kernel
theorem d_1_2_17 : decode prog_1_method_2_code 17 = .ok (.iload_n 1, 1) := by decide +kernel
theorem d_1_2_18 : decode prog_1_method_2_code 18 = .ok (.invokevirtual 61, 3) := by decide +kernel
theorem d_1_2_21 : decode prog_1_method_2_code 21 = .ok (.aload_n 0, 1) := by decide +kernel
theorem d_1_2_22 : decode prog_1_method_2_code 22 = .ok (.iload_n 2, 1) := by decide +kernel
theorem d_1_2_23 : decode prog_1_method_2_code 23 = .ok (.invokevirtual 61, 3) := by decide +kernel
theorem d_1_2_26 : decode prog_1_method_2_code 26 = .ok (.aload_n 0, 1) := by decide +kernel
theorem d_1_2_27 : decode prog_1_method_2_code 27 = .ok (.iload_n 3, 1) := by decide +kernel
theorem d_1_2_28 : decode prog_1_method_2_code 28 = .ok (.invokevirtual 61, 3) := by decide +kernel
theorem d_1_2_31 : decode prog_1_method_2_code 31 = .ok (.aload_n 0, 1) := by decide +kernel
theorem d_1_2_32 : decode prog_1_method_2_code 32 = .ok (.iload 4, 2) := by decide +kernel
theorem d_1_2_34 : decode prog_1_method_2_code 34 = .ok (.invokevirtual 61, 3) := by decide +kernel
theorem d_1_2_37 : decode prog_1_method_2_code 37 = .ok (.aload_n 0, 1) := by decide +kernel
theorem d_1_2_38 : decode prog_1_method_2_code 38 = .ok (.iload 5, 2) := by decide +kernel
theorem d_1_2_40 : decode prog_1_method_2_code 40 = .ok (.invokevirtual 61, 3) := by decide +kernel
theorem d_1_2_43 : decode prog_1_method_2_code 43 = .ok (.aload_n 0, 1) := by decide +kernel
theorem d_1_2_44 : decode prog_1_method_2_code 44 = .ok (.getfield 57, 3) := by decide +kernel
theorem d_1_2_47 : decode prog_1_method_2_code 47 = .ok (.ireturn, 1) := by decide +kernel
theorem d_1_3_0 : decode prog_1_method_3_code 0 = .ok (.iload_n 1, 1) := by decide +kernel
theorem d_1_3_1 : decode prog_1_method_3_code 1 = .ok (.ifCond .lt 11, 3) := by decide +kernel
theorem d_1_3_4 : decode prog_1_method_3_code 4 = .ok (.iload_n 1, 1) := by decide +kernel
theorem d_1_3_5 : decode prog_1_method_3_code 5 = .ok (.aload_n 0, 1) := by decide +kernel
theorem d_1_3_6 : decode prog_1_method_3_code 6 = .ok (.getfield 57, 3) := by decide +kernel
theorem d_1_3_9 : decode prog_1_method_3_code 9 = .ok (.if_icmp .le 5, 3) := by decide +kernel
theorem d_1_3_12 : decode prog_1_method_3_code 12 = .ok (.iconst (-1), 1) := by decide +kernel
theorem d_1_3_13 : decode prog_1_method_3_code 13 = .ok (.ireturn, 1) := by decide +kernel
theorem d_1_3_14 : decode prog_1_method_3_code 14 = .ok (.aload_n 0, 1) := by decide +kernel
theorem d_1_3_15 : decode prog_1_method_3_code 15 = .ok (.iload_n 1, 1) := by decide +kernel
theorem d_1_3_16 : decode prog_1_method_3_code 16 = .ok (.putfield 57, 3) := by decide +kernel
theorem d_1_3_19 : decode prog_1_method_3_code 19 = .ok (.iload_n 1, 1) := by decide +kernel
theorem d_1_3_20 : decode prog_1_method_3_code 20 = .ok (.ireturn, 1) := by decide +kernel
theorem d_1_4_0 : decode prog_1_method_4_code 0 = .ok (.aload_n 0, 1) := by decide +kernel
theorem d_1_4_1 : decode prog_1_method_4_code 1 = .ok (.getfield 24, 3) := by decide +kernel
theorem d_1_4_4 : decode prog_1_method_4_code 4 = .ok (.aload_n 0, 1) := by decide +kernel
theorem d_1_4_5 : decode prog_1_method_4_code 5 = .ok (.getfield 20, 3) := by decide +kernel
theorem d_1_4_8 : decode prog_1_method_4_code 8 = .ok (.aload_n 0, 1) := by decide +kernel
theorem d_1_4_9 : decode prog_1_method_4_code 9 = .ok (.getfield 57, 3) := by decide +kernel
theorem d_1_4_12 : decode prog_1_method_4_code 12 = .ok (.invokevirtual 65, 3) := by decide +kernel
theorem d_1_4_15 : decode prog_1_method_4_code 15 = .ok (.aload_n 0, 1) := by decide +kernel
theorem d_1_4_16 : decode prog_1_method_4_code 16 = .ok (.iconst 0, 1) := by decide +kernel
theorem d_1_4_17 : decode prog_1_method_4_code 17 = .ok (.putfield 57, 3) := by decide +kernel
theorem d_1_4_20 : decode prog_1_method_4_code 20 = .ok (.aload_n 0, 1) := by decide +kernel
theorem d_1_4_21 : decode prog_1_method_4_code 21 = .ok (.getfield 32, 3) := by decide +kernel
theorem d_1_4_24 : decode prog_1_method_4_code 24 = .ok (.invokevirtual 69, 3) := by decide +kernel
theorem d_1_4_27 : decode prog_1_method_4_code 27 = .ok (.aload_n 0, 1) := by decide +kernel
theorem d_1_4_28 : decode prog_1_method_4_code 28 = .ok (.getfield 46, 3) := by decide +kernel
theorem d_1_4_31 : decode prog_1_method_4_code 31 = .ok (.invokevirtual 72, 3) := by decide +kernel
theorem d_1_4_34 : decode prog_1_method_4_code 34 = .ok (.aload_n 0, 1) := by decide +kernel
theorem d_1_4_35 : decode prog_1_method_4_code 35 = .ok (.getfield 24, 3) := by decide +kernel
theorem d_1_4_38 : decode prog_1_method_4_code 38 = .ok (.invokevirtual 75, 3) := by decide +kernel
theorem d_1_4_41 : decode prog_1_method_4_code 41 = .ok (.bipush (-2), 2) := by decide +kernel
theorem d_1_4_43 : decode prog_1_method_4_code 43 = .ok (.if_icmp .eq 11, 3) := by decide +kernel
theorem d_1_4_46 : decode prog_1_method_4_code 46 = .ok (.aload_n 0, 1) := by decide +kernel
theorem d_1_4_47 : decode prog_1_method_4_code 47 = .ok (.getfield 24, 3) := by decide +kernel
theorem d_1_4_50 : decode prog_1_method_4_code 50 = .ok (.invokevirtual 75, 3) := by decide +kernel
theorem d_1_4_53 : decode prog_1_method_4_code 53 = .ok (.ireturn, 1) := by decide +kernel
theorem d_1_5_0 : decode prog_1_method_5_code 0 = .ok (.aload_n 0, 1) := by decide +kernel
theorem d_1_5_1 : decode prog_1_method_5_code 1 = .ok (.getfield 53, 3) := by decide +kernel
theorem d_1_5_4 : decode prog_1_method_5_code 4 = .ok (.invokevirtual 88, 3) := by decide +kernel
theorem d_1_5_7 : decode prog_1_method_5_code 7 = .ok (.ireturn, 1) := by decide +kernel
theorem d_1_6_0 : decode prog_1_method_6_code 0 = .ok (.iload_n 2, 1) := by decide +kernel
theorem d_1_6_1 : decode prog_1_method_6_code 1 = .ok (.ifCond .lt 8, 3) := by decide +kernel
theorem d_1_6_4 : decode prog_1_method_6_code 4 = .ok (.iload_n 2, 1) := by decide +kernel
theorem d_1_6_5 : decode prog_1_method_6_code 5 = .ok (.iconst 4, 1) := by decide +kernel
theorem d_1_6_6 : decode prog_1_method_6_code 6 = .ok (.if_icmp .le 5, 3) := by decide +kernel
theorem d_1_6_9 : decode prog_1_method_6_code 9 = .ok (.iconst (-1), 1) := by decide +kernel
theorem d_1_6_10 : decode prog_1_method_6_code 10 = .ok (.ireturn, 1) := by decide +kernel
theorem d_1_6_11 : decode prog_1_method_6_code 11 = .ok (.aload_n 0, 1) := by decide +kernel
theorem d_1_6_12 : decode prog_1_method_6_code 12 = .ok (.getfield 53, 3) := by decide +kernel
theorem d_1_6_15 : decode prog_1_method_6_code 15 = .ok (.iload_n 1, 1) := by decide +kernel
theorem d_1_6_16 : decode prog_1_method_6_code 16 = .ok (.iload_n 2, 1) := by decide +kernel
theorem d_1_6_17 : decode prog_1_method_6_code 17 = .ok (.invokevirtual 91, 3) := by decide +kernel
theorem d_1_6_20 : decode prog_1_method_6_code 20 = .ok (.ireturn, 1) := by decide +kernel
theorem d_1_7_0 : decode prog_1_method_7_code 0 = .ok (.aload_n 0, 1) := by decide +kernel
theorem d_1_7_1 : decode prog_1_method_7_code 1 = .ok (.getfield 53, 3) := by decide +kernel
theorem d_1_7_4 : decode prog_1_method_7_code 4 = .ok (.iload_n 1, 1) := by decide +kernel
theorem d_1_7_5 : decode prog_1_method_7_code 5 = .ok (.invokevirtual 95, 3) := by decide +kernel
theorem d_1_7_8 : decode prog_1_method_7_code 8 = .ok (.ireturn, 1) := by decide +kernel
theorem d_1_8_0 : decode prog_1_method_8_code 0 = .ok (.bipush 24, 2) := by decide +kernel
theorem d_1_8_2 : decode prog_1_method_8_code 2 = .ok (.istore_n 2, 1) := by decide +kernel
theorem d_1_8_3 : decode prog_1_method_8_code 3 = .ok (.iload_n 2, 1) := by decide +kernel
theorem d_1_8_4 : decode prog_1_method_8_code 4 = .ok (.ifCond .lt 42, 3) := by decide +kernel
theorem d_1_8_7 : decode prog_1_method_8_code 7 = .ok (.aload_n 0, 1) := by decide +kernel
theorem d_1_8_8 : decode prog_1_method_8_code 8 = .ok (.getfield 57, 3) := by decide +kernel
theorem d_1_8_11 : decode prog_1_method_8_code 11 = .ok (.sipush 3000, 3) := by decide +kernel
theorem d_1_8_14 : decode prog_1_method_8_code 14 = .ok (.if_icmp .ge 26, 3) := by decide +kernel
theorem d_1_8_17 : decode prog_1_method_8_code 17 = .ok (.aload_n 0, 1) := by decide +kernel
theorem d_1_8_18 : decode prog_1_method_8_code 18 = .ok (.getfield 20, 3) := by decide +kernel
