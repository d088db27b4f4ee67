theorem d_2_12_34 : decode prog_2_method_12_code 34 = .ok (.if_icmp .ge 42, 3) := by decide +kernel
theorem d_2_12_37 : decode prog_2_method_12_code 37 = .ok (.iload_n 1, 1) := by decide +kernel
theorem d_2_12_38 : decode prog_2_method_12_code 38 = .ok (.ifCond .eq 15, 3) := by decide +kernel
theorem d_2_12_41 : decode prog_2_method_12_code 41 = .ok (.aload_n 0, 1) := by decide +kernel
theorem d_2_12_42 : decode prog_2_method_12_code 42 = .ok (.getfield 9, 3) := by decide +kernel
theorem d_2_12_45 : decode prog_2_method_12_code 45 = .ok (.bipush 38, 2) := by decide +kernel
theorem d_2_12_47 : decode prog_2_method_12_code 47 = .ok (.invokevirtual 73, 3) := by decide +kernel
theorem d_2_12_50 : decode prog_2_method_12_code 50 = .ok (.ifCond .eq 26, 3) := by decide +kernel
theorem d_2_12_53 : decode prog_2_method_12_code 53 = .ok (.iload_n 1, 1) := by decide +kernel
theorem d_2_12_54 : decode prog_2_method_12_code 54 = .ok (.bipush 20, 2) := by decide +kernel
theorem d_2_12_56 : decode prog_2_method_12_code 56 = .ok (.if_icmp .lt 10, 3) := by decide +kernel
theorem d_2_12_59 : decode prog_2_method_12_code 59 = .ok (.aload_n 0, 1) := by decide +kernel
theorem d_2_12_60 : decode prog_2_method_12_code 60 = .ok (.getfield 9, 3) := by decide +kernel
theorem d_2_12_63 : decode prog_2_method_12_code 63 = .ok (.invokevirtual 48, 3) := by decide +kernel
theorem d_2_12_66 : decode prog_2_method_12_code 66 = .ok (.aload_n 0, 1) := by decide +kernel
theorem d_2_12_67 : decode prog_2_method_12_code 67 = .ok (.invokevirtual 129, 3) := by decide +kernel
theorem d_2_12_70 : decode prog_2_method_12_code 70 = .ok (.iinc 1 1, 3) := by decide +kernel
theorem d_2_12_73 : decode prog_2_method_12_code 73 = .ok (.goto (-43), 3) := by decide +kernel
theorem d_2_12_76 : decode prog_2_method_12_code 76 = .ok (.return_, 1) := by decide +kernel
theorem d_2_13_0 : decode prog_2_method_13_code 0 = .ok (.aload_n 0, 1) := by decide +kernel
theorem d_2_13_1 : decode prog_2_method_13_code 1 = .ok (.getfield 9, 3) := by decide +kernel
theorem d_2_13_4 : decode prog_2_method_13_code 4 = .ok (.invokevirtual 132, 3) := by decide +kernel
theorem d_2_13_7 : decode prog_2_method_13_code 7 = .ok (.istore_n 1, 1) := by decide +kernel
theorem d_2_13_8 : decode prog_2_method_13_code 8 = .ok (.aload_n 0, 1) := by decide +kernel
theorem d_2_13_9 : decode prog_2_method_13_code 9 = .ok (.getfield 19, 3) := by decide +kernel
theorem d_2_13_12 : decode prog_2_method_13_code 12 = .ok (.aload_n 0, 1) := by decide +kernel
theorem d_2_13_13 : decode prog_2_method_13_code 13 = .ok (.getfield 15, 3) := by decide +kernel
theorem d_2_13_16 : decode prog_2_method_13_code 16 = .ok (.invokevirtual 135, 3) := by decide +kernel
theorem d_2_13_19 : decode prog_2_method_13_code 19 = .ok (.iload_n 1, 1) := by decide +kernel
theorem d_2_13_20 : decode prog_2_method_13_code 20 = .ok (.invokevirtual 138, 3) := by decide +kernel
theorem d_2_13_23 : decode prog_2_method_13_code 23 = .ok (.return_, 1) := by decide +kernel
theorem d_2_14_0 : decode prog_2_method_14_code 0 = .ok (.aload_n 0, 1) := by decide +kernel
theorem d_2_14_1 : decode prog_2_method_14_code 1 = .ok (.getfield 32, 3) := by decide +kernel
theorem d_2_14_4 : decode prog_2_method_14_code 4 = .ok (.istore_n 2, 1) := by decide +kernel
theorem d_2_14_5 : decode prog_2_method_14_code 5 = .ok (.aload_n 0, 1) := by decide +kernel
theorem d_2_14_6 : decode prog_2_method_14_code 6 = .ok (.iconst 0, 1) := by decide +kernel
theorem d_2_14_7 : decode prog_2_method_14_code 7 = .ok (.putfield 32, 3) := by decide +kernel
theorem d_2_14_10 : decode prog_2_method_14_code 10 = .ok (.aload_n 0, 1) := by decide +kernel
theorem d_2_14_11 : decode prog_2_method_14_code 11 = .ok (.getfield 9, 3) := by decide +kernel
theorem d_2_14_14 : decode prog_2_method_14_code 14 = .ok (.bipush 6, 2) := by decide +kernel
theorem d_2_14_16 : decode prog_2_method_14_code 16 = .ok (.invokevirtual 51, 3) := by decide +kernel
theorem d_2_14_19 : decode prog_2_method_14_code 19 = .ok (.aload_n 0, 1) := by decide +kernel
theorem d_2_14_20 : decode prog_2_method_14_code 20 = .ok (.getfield 15, 3) := by decide +kernel
theorem d_2_14_23 : decode prog_2_method_14_code 23 = .ok (.iconst 3, 1) := by decide +kernel
theorem d_2_14_24 : decode prog_2_method_14_code 24 = .ok (.iload_n 1, 1) := by decide +kernel
theorem d_2_14_25 : decode prog_2_method_14_code 25 = .ok (.invokevirtual 112, 3) := by decide +kernel
theorem d_2_14_28 : decode prog_2_method_14_code 28 = .ok (.istore_n 3, 1) := by decide +kernel
theorem d_2_14_29 : decode prog_2_method_14_code 29 = .ok (.aload_n 0, 1) := by decide +kernel
theorem d_2_14_30 : decode prog_2_method_14_code 30 = .ok (.getfield 15, 3) := by decide +kernel
theorem d_2_14_33 : decode prog_2_method_14_code 33 = .ok (.iload_n 3, 1) := by decide +kernel
theorem d_2_14_34 : decode prog_2_method_14_code 34 = .ok (.invokevirtual 143, 3) := by decide +kernel
theorem d_2_14_37 : decode prog_2_method_14_code 37 = .ok (.aload_n 0, 1) := by decide +kernel
theorem d_2_14_38 : decode prog_2_method_14_code 38 = .ok (.getfield 9, 3) := by decide +kernel
theorem d_2_14_41 : decode prog_2_method_14_code 41 = .ok (.bipush 34, 2) := by decide +kernel
theorem d_2_14_43 : decode prog_2_method_14_code 43 = .ok (.invokevirtual 44, 3) := by decide +kernel
theorem d_2_14_46 : decode prog_2_method_14_code 46 = .ok (.ifCond .eq 42, 3) := by decide +kernel
theorem d_2_14_49 : decode prog_2_method_14_code 49 = .ok (.aload_n 0, 1) := by decide +kernel
theorem d_2_14_50 : decode prog_2_method_14_code 50 = .ok (.getfield 15, 3) := by decide +kernel
theorem d_2_14_53 : decode prog_2_method_14_code 53 = .ok (.iload_n 3, 1) := by decide +kernel
theorem d_2_14_54 : decode prog_2_method_14_code 54 = .ok (.aload_n 0, 1) := by decide +kernel
theorem d_2_14_55 : decode prog_2_method_14_code 55 = .ok (.invokevirtual 146, 3) := by decide +kernel
theorem d_2_14_58 : decode prog_2_method_14_code 58 = .ok (.invokevirtual 149, 3) := by decide +kernel
theorem d_2_14_61 : decode prog_2_method_14_code 61 = .ok (.aload_n 0, 1) := by decide +kernel
theorem d_2_14_62 : decode prog_2_method_14_code 62 = .ok (.getfield 9, 3) := by decide +kernel
theorem d_2_14_65 : decode prog_2_method_14_code 65 = .ok (.bipush 39, 2) := by decide +kernel
theorem d_2_14_67 : decode prog_2_method_14_code 67 = .ok (.invokevirtual 67, 3) := by decide +kernel
theorem d_2_14_70 : decode prog_2_method_14_code 70 = .ok (.aload_n 0, 1) := by decide +kernel
theorem d_2_14_71 : decode prog_2_method_14_code 71 = .ok (.invokevirtual 152, 3) := by decide +kernel
theorem d_2_14_74 : decode prog_2_method_14_code 74 = .ok (.aload_n 0, 1) := by decide +kernel
theorem d_2_14_75 : decode prog_2_method_14_code 75 = .ok (.invokevirtual 155, 3) := by decide +kernel
theorem d_2_14_78 : decode prog_2_method_14_code 78 = .ok (.aload_n 0, 1) := by decide +kernel
theorem d_2_14_79 : decode prog_2_method_14_code 79 = .ok (.getfield 15, 3) := by decide +kernel
theorem d_2_14_82 : decode prog_2_method_14_code 82 = .ok (.invokevirtual 158, 3) := by decide +kernel
theorem d_2_14_85 : decode prog_2_method_14_code 85 = .ok (.goto 12, 3) := by decide +kernel
theorem d_2_14_88 : decode prog_2_method_14_code 88 = .ok (.aload_n 0, 1) := by decide +kernel
theorem d_2_14_89 : decode prog_2_method_14_code 89 = .ok (.getfield 9, 3) := by decide +kernel
theorem d_2_14_92 : decode prog_2_method_14_code 92 = .ok (.bipush 39, 2) := by decide +kernel
theorem d_2_14_94 : decode prog_2_method_14_code 94 = .ok (.invokevirtual 67, 3) := by decide +kernel
theorem d_2_14_97 : decode prog_2_method_14_code 97 = .ok (.aload_n 0, 1) := by decide +kernel
theorem d_2_14_98 : decode prog_2_method_14_code 98 = .ok (.invokevirtual 161, 3) := by decide +kernel
theorem d_2_14_101 : decode prog_2_method_14_code 101 = .ok (.aload_n 0, 1) := by decide +kernel
theorem d_2_14_102 : decode prog_2_method_14_code 102 = .ok (.getfield 15, 3) := by decide +kernel
theorem d_2_14_105 : decode prog_2_method_14_code 105 = .ok (.invokevirtual 76, 3) := by decide +kernel
theorem d_2_14_108 : decode prog_2_method_14_code 108 = .ok (.aload_n 0, 1) := by decide +kernel
theorem d_2_14_109 : decode prog_2_method_14_code 109 = .ok (.getfield 9, 3) := by decide +kernel
theorem d_2_14_112 : decode prog_2_method_14_code 112 = .ok (.invokevirtual 164, 3) := by decide +kernel
theorem d_2_14_115 : decode prog_2_method_14_code 115 = .ok (.aload_n 0, 1) := by decide +kernel
theorem d_2_14_116 : decode prog_2_method_14_code 116 = .ok (.iload_n 2, 1) := by decide +kernel
theorem d_2_14_117 : decode prog_2_method_14_code 117 = .ok (.putfield 32, 3) := by decide +kernel
theorem d_2_14_120 : decode prog_2_method_14_code 120 = .ok (.return_, 1) := by decide +kernel
theorem d_2_15_0 : decode prog_2_method_15_code 0 = .ok (.iconst 0, 1) := by decide +kernel
theorem d_2_15_1 : decode prog_2_method_15_code 1 = .ok (.istore_n 1, 1) := by decide +kernel
theorem d_2_15_2 : decode prog_2_method_15_code 2 = .ok (.aload_n 0, 1) := by decide +kernel
theorem d_2_15_3 : decode prog_2_method_15_code 3 = .ok (.getfield 9, 3) := by decide +kernel
theorem d_2_15_6 : decode prog_2_method_15_code 6 = .ok (.bipush 34, 2) := by decide +kernel
theorem d_2_15_8 : decode prog_2_method_15_code 8 = .ok (.invokevirtual 67, 3) := by decide +kernel
theorem d_2_15_11 : decode prog_2_method_15_code 11 = .ok (.iconst 0, 1) := by decide +kernel
theorem d_2_15_12 : decode prog_2_method_15_code 12 = .ok (.istore_n 2, 1) := by decide +kernel
theorem d_2_15_13 : decode prog_2_method_15_code 13 = .ok (.iload_n 2, 1) := by decide +kernel
theorem d_2_15_14 : decode prog_2_method_15_code 14 = .ok (.sipush 3001, 3) := by decide +kernel
theorem d_2_15_17 : decode prog_2_method_15_code 17 = .ok (.if_icmp .ge 51, 3) := by decide +kernel
theorem d_2_15_20 : decode prog_2_method_15_code 20 = .ok (.iload_n 2, 1) := by decide +kernel
theorem d_2_15_21 : decode prog_2_method_15_code 21 = .ok (.ifCond .eq 15, 3) := by decide +kernel
theorem d_2_15_24 : decode prog_2_method_15_code 24 = .ok (.aload_n 0, 1) := by decide +kernel
theorem d_2_15_25 : decode prog_2_method_15_code 25 = .ok (.getfield 9, 3) := by decide +kernel
theorem d_2_15_28 : decode prog_2_method_15_code 28 = .ok (.bipush 38, 2) := by decide +kernel
theorem d_2_15_30 : decode prog_2_method_15_code 30 = .ok (.invokevirtual 73, 3) := by decide +kernel
theorem d_2_15_33 : decode prog_2_method_15_code 33 = .ok (.ifCond .eq 35, 3) := by decide +kernel
theorem d_2_15_36 : decode prog_2_method_15_code 36 = .ok (.iload_n 2, 1) := by decide +kernel
theorem d_2_15_37 : decode prog_2_method_15_code 37 = .ok (.bipush 6, 2) := by decide +kernel
theorem d_2_15_39 : decode prog_2_method_15_code 39 = .ok (.if_icmp .lt 10, 3) := by decide +kernel
theorem d_2_15_42 : decode prog_2_method_15_code 42 = .ok (.aload_n 0, 1) := by decide +kernel
theorem d_2_15_43 : decode prog_2_method_15_code 43 = .ok (.getfield 9, 3) := by decide +kernel
theorem d_2_15_46 : decode prog_2_method_15_code 46 = .ok (.invokevirtual 48, 3) := by decide +kernel
theorem d_2_15_49 : decode prog_2_method_15_code 49 = .ok (.aload_n 0, 1) := by decide +kernel
theorem d_2_15_50 : decode prog_2_method_15_code 50 = .ok (.getfield 15, 3) := by decide +kernel
theorem d_2_15_53 : decode prog_2_method_15_code 53 = .ok (.iconst 0, 1) := by decide +kernel
theorem d_2_15_54 : decode prog_2_method_15_code 54 = .ok (.iconst 0, 1) := by decide +kernel
theorem d_2_15_55 : decode prog_2_method_15_code 55 = .ok (.invokevirtual 112, 3) := by decide +kernel
theorem d_2_15_58 : decode prog_2_method_15_code 58 = .ok (.pop, 1) := by decide +kernel
theorem d_2_15_59 : decode prog_2_method_15_code 59 = .ok (.iinc 1 1, 3) := by decide +kernel
theorem d_2_15_62 : decode prog_2_method_15_code 62 = .ok (.iinc 2 1, 3) := by decide +kernel
theorem d_2_15_65 : decode prog_2_method_15_code 65 = .ok (.goto (-52), 3) := by decide +kernel
theorem d_2_15_68 : decode prog_2_method_15_code 68 = .ok (.aload_n 0, 1) := by decide +kernel
theorem d_2_15_69 : decode prog_2_method_15_code 69 = .ok (.getfield 9, 3) := by decide +kernel
theorem d_2_15_72 : decode prog_2_method_15_code 72 = .ok (.bipush 35, 2) := by decide +kernel
theorem d_2_15_74 : decode prog_2_method_15_code 74 = .ok (.invokevirtual 67, 3) := by decide +kernel
theorem d_2_15_77 : decode prog_2_method_15_code 77 = .ok (.iload_n 1, 1) := by decide +kernel
theorem d_2_15_78 : decode prog_2_method_15_code 78 = .ok (.ireturn, 1) := by decide +kernel
theorem d_2_16_0 : decode prog_2_method_16_code 0 = .ok (.aload_n 0, 1) := by decide +kernel
theorem d_2_16_1 : decode prog_2_method_16_code 1 = .ok (.getfield 9, 3) := by decide +kernel
theorem d_2_16_4 : decode prog_2_method_16_code 4 = .ok (.bipush 7, 2) := by decide +kernel
theorem d_2_16_6 : decode prog_2_method_16_code 6 = .ok (.invokevirtual 73, 3) := by decide +kernel
theorem d_2_16_9 : decode prog_2_method_16_code 9 = .ok (.ifCond .ne 4, 3) := by decide +kernel
theorem d_2_16_12 : decode prog_2_method_16_code 12 = .ok (.return_, 1) := by decide +kernel
theorem d_2_16_13 : decode prog_2_method_16_code 13 = .ok (.iconst 0, 1) := by decide +kernel
theorem d_2_16_14 : decode prog_2_method_16_code 14 = .ok (.istore_n 1, 1) := by decide +kernel
theorem d_2_16_15 : decode prog_2_method_16_code 15 = .ok (.iload_n 1, 1) := by decide +kernel
theorem d_2_16_16 : decode prog_2_method_16_code 16 = .ok (.sipush 3001, 3) := by decide +kernel
theorem d_2_16_19 : decode prog_2_method_16_code 19 = .ok (.if_icmp .ge 32, 3) := by decide +kernel
theorem d_2_16_22 : decode prog_2_method_16_code 22 = .ok (.iload_n 1, 1) := by decide +kernel
theorem d_2_16_23 : decode prog_2_method_16_code 23 = .ok (.ifCond .eq 15, 3) := by decide +kernel
theorem d_2_16_26 : decode prog_2_method_16_code 26 = .ok (.aload_n 0, 1) := by decide +kernel
theorem d_2_16_27 : decode prog_2_method_16_code 27 = .ok (.getfield 9, 3) := by decide +kernel
theorem d_2_16_30 : decode prog_2_method_16_code 30 = .ok (.bipush 38, 2) := by decide +kernel
theorem d_2_16_32 : decode prog_2_method_16_code 32 = .ok (.invokevirtual 73, 3) := by decide +kernel
theorem d_2_16_35 : decode prog_2_method_16_code 35 = .ok (.ifCond .eq 16, 3) := by decide +kernel
theorem d_2_16_38 : decode prog_2_method_16_code 38 = .ok (.aload_n 0, 1) := by decide +kernel
theorem d_2_16_39 : decode prog_2_method_16_code 39 = .ok (.getfield 15, 3) := by decide +kernel
theorem d_2_16_42 : decode prog_2_method_16_code 42 = .ok (.invokevirtual 167, 3) := by decide +kernel
theorem d_2_16_45 : decode prog_2_method_16_code 45 = .ok (.iinc 1 1, 3) := by decide +kernel
theorem d_2_16_48 : decode prog_2_method_16_code 48 = .ok (.goto (-33), 3) := by decide +kernel
theorem d_2_16_51 : decode prog_2_method_16_code 51 = .ok (.aload_n 0, 1) := by decide +kernel
theorem d_2_16_52 : decode prog_2_method_16_code 52 = .ok (.getfield 9, 3) := by decide +kernel
theorem d_2_16_55 : decode prog_2_method_16_code 55 = .ok (.bipush 39, 2) := by decide +kernel
theorem d_2_16_57 : decode prog_2_method_16_code 57 = .ok (.invokevirtual 67, 3) := by decide +kernel
theorem d_2_16_60 : decode prog_2_method_16_code 60 = .ok (.return_, 1) := by decide +kernel
theorem d_2_17_0 : decode prog_2_method_17_code 0 = .ok (.iconst 0, 1) := by decide +kernel
theorem d_2_17_1 : decode prog_2_method_17_code 1 = .ok (.istore_n 1, 1) := by decide +kernel
theorem d_2_17_2 : decode prog_2_method_17_code 2 = .ok (.iload_n 1, 1) := by decide +kernel
theorem d_2_17_3 : decode prog_2_method_17_code 3 = .ok (.sipush 3001, 3) := by decide +kernel
theorem d_2_17_6 : decode prog_2_method_17_code 6 = .ok (.if_icmp .ge 87, 3) := by decide +kernel
theorem d_2_17_9 : decode prog_2_method_17_code 9 = .ok (.aload_n 0, 1) := by decide +kernel
theorem d_2_17_10 : decode prog_2_method_17_code 10 = .ok (.invokevirtual 82, 3) := by decide +kernel
theorem d_2_17_13 : decode prog_2_method_17_code 13 = .ok (.ifCond .ne 15, 3) := by decide +kernel
theorem d_2_17_16 : decode prog_2_method_17_code 16 = .ok (.aload_n 0, 1) := by decide +kernel
theorem d_2_17_17 : decode prog_2_method_17_code 17 = .ok (.getfield 9, 3) := by decide +kernel
theorem d_2_17_20 : decode prog_2_method_17_code 20 = .ok (.bipush 10, 2) := by decide +kernel
theorem d_2_17_22 : decode prog_2_method_17_code 22 = .ok (.invokevirtual 44, 3) := by decide +kernel
theorem d_2_17_25 : decode prog_2_method_17_code 25 = .ok (.ifCond .eq 68, 3) := by decide +kernel
theorem d_2_17_28 : decode prog_2_method_17_code 28 = .ok (.aload_n 0, 1) := by decide +kernel
theorem d_2_17_29 : decode prog_2_method_17_code 29 = .ok (.getfield 9, 3) := by decide +kernel
theorem d_2_17_32 : decode prog_2_method_17_code 32 = .ok (.bipush 10, 2) := by decide +kernel
theorem d_2_17_34 : decode prog_2_method_17_code 34 = .ok (.invokevirtual 73, 3) := by decide +kernel
theorem d_2_17_37 : decode prog_2_method_17_code 37 = .ok (.ifCond .eq 13, 3) := by decide +kernel
theorem d_2_17_40 : decode prog_2_method_17_code 40 = .ok (.aload_n 0, 1) := by decide +kernel
theorem d_2_17_41 : decode prog_2_method_17_code 41 = .ok (.bipush 8, 2) := by decide +kernel
theorem d_2_17_43 : decode prog_2_method_17_code 43 = .ok (.iconst 0, 1) := by decide +kernel
theorem d_2_17_44 : decode prog_2_method_17_code 44 = .ok (.invokevirtual 170, 3) := by decide +kernel
theorem d_2_17_47 : decode prog_2_method_17_code 47 = .ok (.goto 31, 3) := by decide +kernel
theorem d_2_17_50 : decode prog_2_method_17_code 50 = .ok (.aload_n 0, 1) := by decide +kernel
theorem d_2_17_51 : decode prog_2_method_17_code 51 = .ok (.invokevirtual 88, 3) := by decide +kernel
theorem d_2_17_54 : decode prog_2_method_17_code 54 = .ok (.istore_n 2, 1) := by decide +kernel
theorem d_2_17_55 : decode prog_2_method_17_code 55 = .ok (.aload_n 0, 1) := by decide +kernel
theorem d_2_17_56 : decode prog_2_method_17_code 56 = .ok (.aload_n 0, 1) := by decide +kernel
theorem d_2_17_57 : decode prog_2_method_17_code 57 = .ok (.getfield 9, 3) := by decide +kernel
theorem d_2_17_60 : decode prog_2_method_17_code 60 = .ok (.iconst 5, 1) := by decide +kernel
theorem d_2_17_61 : decode prog_2_method_17_code 61 = .ok (.invokevirtual 73, 3) := by decide +kernel
theorem d_2_17_64 : decode prog_2_method_17_code 64 = .ok (.ifCond .eq 8, 3) := by decide +kernel
theorem d_2_17_67 : decode prog_2_method_17_code 67 = .ok (.bipush 7, 2) := by decide +kernel
theorem d_2_17_69 : decode prog_2_method_17_code 69 = .ok (.goto 5, 3) := by decide +kernel
theorem d_2_17_72 : decode prog_2_method_17_code 72 = .ok (.bipush 6, 2) := by decide +kernel
theorem d_2_17_74 : decode prog_2_method_17_code 74 = .ok (.iload_n 2, 1) := by decide +kernel
theorem d_2_17_75 : decode prog_2_method_17_code 75 = .ok (.invokevirtual 170, 3) := by decide +kernel
theorem d_2_17_78 : decode prog_2_method_17_code 78 = .ok (.aload_n 0, 1) := by decide +kernel
theorem d_2_17_79 : decode prog_2_method_17_code 79 = .ok (.getfield 9, 3) := by decide +kernel
theorem d_2_17_82 : decode prog_2_method_17_code 82 = .ok (.bipush 39, 2) := by decide +kernel
theorem d_2_17_84 : decode prog_2_method_17_code 84 = .ok (.invokevirtual 67, 3) := by decide +kernel
theorem d_2_17_87 : decode prog_2_method_17_code 87 = .ok (.iinc 1 1, 3) := by decide +kernel
theorem d_2_17_90 : decode prog_2_method_17_code 90 = .ok (.goto (-88), 3) := by decide +kernel
theorem d_2_17_93 : decode prog_2_method_17_code 93 = .ok (.return_, 1) := by decide +kernel
theorem d_2_18_0 : decode prog_2_method_18_code 0 = .ok (.iconst 0, 1) := by decide +kernel
theorem d_2_18_1 : decode prog_2_method_18_code 1 = .ok (.istore_n 3, 1) := by decide +kernel
theorem d_2_18_2 : decode prog_2_method_18_code 2 = .ok (.iload_n 3, 1) := by decide +kernel
theorem d_2_18_3 : decode prog_2_method_18_code 3 = .ok (.sipush 3001, 3) := by decide +kernel
theorem d_2_18_6 : decode prog_2_method_18_code 6 = .ok (.if_icmp .ge 34, 3) := by decide +kernel
theorem d_2_18_9 : decode prog_2_method_18_code 9 = .ok (.iload_n 3, 1) := by decide +kernel
theorem d_2_18_10 : decode prog_2_method_18_code 10 = .ok (.ifCond .eq 15, 3) := by decide +kernel
theorem d_2_18_13 : decode prog_2_method_18_code 13 = .ok (.aload_n 0, 1) := by decide +kernel
theorem d_2_18_14 : decode prog_2_method_18_code 14 = .ok (.getfield 9, 3) := by decide +kernel
theorem d_2_18_17 : decode prog_2_method_18_code 17 = .ok (.bipush 38, 2) := by decide +kernel
theorem d_2_18_19 : decode prog_2_method_18_code 19 = .ok (.invokevirtual 73, 3) := by decide +kernel
theorem d_2_18_22 : decode prog_2_method_18_code 22 = .ok (.ifCond .eq 18, 3) := by decide +kernel
theorem d_2_18_25 : decode prog_2_method_18_code 25 = .ok (.aload_n 0, 1) := by decide +kernel
theorem d_2_18_26 : decode prog_2_method_18_code 26 = .ok (.getfield 15, 3) := by decide +kernel
theorem d_2_18_29 : decode prog_2_method_18_code 29 = .ok (.iload_n 1, 1) := by decide +kernel
theorem d_2_18_30 : decode prog_2_method_18_code 30 = .ok (.iload_n 2, 1) := by decide +kernel
theorem d_2_18_31 : decode prog_2_method_18_code 31 = .ok (.invokevirtual 173, 3) := by decide +kernel
theorem d_2_18_34 : decode prog_2_method_18_code 34 = .ok (.iinc 3 1, 3) := by decide +kernel
theorem d_2_18_37 : decode prog_2_method_18_code 37 = .ok (.goto (-35), 3) := by decide +kernel
theorem d_2_18_40 : decode prog_2_method_18_code 40 = .ok (.return_, 1) := by decide +kernel
theorem d_2_19_0 : decode prog_2_method_19_code 0 = .ok (.iconst 0, 1) := by decide +kernel
theorem d_2_19_1 : decode prog_2_method_19_code 1 = .ok (.istore_n 1, 1) := by decide +kernel
theorem d_2_19_2 : decode prog_2_method_19_code 2 = .ok (.iload_n 1, 1) := by decide +kernel
theorem d_2_19_3 : decode prog_2_method_19_code 3 = .ok (.sipush 3001, 3) := by decide +kernel
theorem d_2_19_6 : decode prog_2_method_19_code 6 = .ok (.if_icmp .ge 35, 3) := by decide +kernel
theorem d_2_19_9 : decode prog_2_method_19_code 9 = .ok (.aload_n 0, 1) := by decide +kernel
theorem d_2_19_10 : decode prog_2_method_19_code 10 = .ok (.invokevirtual 176, 3) := by decide +kernel
theorem d_2_19_13 : decode prog_2_method_19_code 13 = .ok (.ifCond .eq 28, 3) := by decide +kernel
theorem d_2_19_16 : decode prog_2_method_19_code 16 = .ok (.aload_n 0, 1) := by decide +kernel
theorem d_2_19_17 : decode prog_2_method_19_code 17 = .ok (.getfield 15, 3) := by decide +kernel
theorem d_2_19_20 : decode prog_2_method_19_code 20 = .ok (.iconst 5, 1) := by decide +kernel
theorem d_2_19_21 : decode prog_2_method_19_code 21 = .ok (.iconst 0, 1) := by decide +kernel
theorem d_2_19_22 : decode prog_2_method_19_code 22 = .ok (.invokevirtual 112, 3) := by decide +kernel
theorem d_2_19_25 : decode prog_2_method_19_code 25 = .ok (.pop, 1) := by decide +kernel
theorem d_2_19_26 : decode prog_2_method_19_code 26 = .ok (.aload_n 0, 1) := by decide +kernel
theorem d_2_19_27 : decode prog_2_method_19_code 27 = .ok (.getfield 9, 3) := by decide +kernel
theorem d_2_19_30 : decode prog_2_method_19_code 30 = .ok (.bipush 40, 2) := by decide +kernel
theorem d_2_19_32 : decode prog_2_method_19_code 32 = .ok (.invokevirtual 67, 3) := by decide +kernel
theorem d_2_19_35 : decode prog_2_method_19_code 35 = .ok (.iinc 1 1, 3) := by decide +kernel
theorem d_2_19_38 : decode prog_2_method_19_code 38 = .ok (.goto (-36), 3) := by decide +kernel
theorem d_2_19_41 : decode prog_2_method_19_code 41 = .ok (.aload_n 0, 1) := by decide +kernel
theorem d_2_19_42 : decode prog_2_method_19_code 42 = .ok (.invokevirtual 161, 3) := by decide +kernel
theorem d_2_19_45 : decode prog_2_method_19_code 45 = .ok (.return_, 1) := by decide +kernel
theorem d_2_1_0 : decode prog_2_method_1_code 0 = .ok (.aload_n 0, 1) := by decide +kernel
theorem d_2_1_1 : decode prog_2_method_1_code 1 = .ok (.invokespecial 3, 3) := by decide +kernel
theorem d_2_1_4 : decode prog_2_method_1_code 4 = .ok (.aload_n 0, 1) := by decide +kernel
theorem d_2_1_5 : decode prog_2_method_1_code 5 = .ok (.aload_n 1, 1) := by decide +kernel
theorem d_2_1_6 : decode prog_2_method_1_code 6 = .ok (.putfield 9, 3) := by decide +kernel
theorem d_2_1_9 : decode prog_2_method_1_code 9 = .ok (.aload_n 0, 1) := by decide +kernel
theorem d_2_1_10 : decode prog_2_method_1_code 10 = .ok (.aload_n 2, 1) := by decide +kernel
theorem d_2_1_11 : decode prog_2_method_1_code 11 = .ok (.putfield 15, 3) := by decide +kernel
theorem d_2_1_14 : decode prog_2_method_1_code 14 = .ok (.aload_n 0, 1) := by decide +kernel
theorem d_2_1_15 : decode prog_2_method_1_code 15 = .ok (.aload_n 3, 1) := by decide +kernel
theorem d_2_1_16 : decode prog_2_method_1_code 16 = .ok (.putfield 19, 3) := by decide +kernel
theorem d_2_1_19 : decode prog_2_method_1_code 19 = .ok (.aload_n 0, 1) := by decide +kernel
theorem d_2_1_20 : decode prog_2_method_1_code 20 = .ok (.new 23, 3) := by decide +kernel
theorem d_2_1_23 : decode prog_2_method_1_code 23 = .ok (.dup, 1) := by decide +kernel
theorem d_2_1_24 : decode prog_2_method_1_code 24 = .ok (.aload_n 1, 1) := by decide +kernel
theorem d_2_1_25 : decode prog_2_method_1_code 25 = .ok (.aload_n 2, 1) := by decide +kernel
theorem d_2_1_26 : decode prog_2_method_1_code 26 = .ok (.aload_n 3, 1) := by decide +kernel
theorem d_2_1_27 : decode prog_2_method_1_code 27 = .ok (.invokespecial 25, 3) := by decide +kernel
theorem d_2_1_30 : decode prog_2_method_1_code 30 = .ok (.putfield 28, 3) := by decide +kernel
theorem d_2_1_33 : decode prog_2_method_1_code 33 = .ok (.aload_n 0, 1) := by decide +kernel
theorem d_2_1_34 : decode prog_2_method_1_code 34 = .ok (.iconst 0, 1) := by decide +kernel
theorem d_2_1_35 : decode prog_2_method_1_code 35 = .ok (.putfield 32, 3) := by decide +kernel
theorem d_2_1_38 : decode prog_2_method_1_code 38 = .ok (.return_, 1) := by decide +kernel
theorem d_2_20_0 : decode prog_2_method_20_code 0 = .ok (.aload_n 0, 1) := by decide +kernel
theorem d_2_20_1 : decode prog_2_method_20_code 1 = .ok (.getfield 9, 3) := by decide +kernel
theorem d_2_20_4 : decode prog_2_method_20_code 4 = .ok (.bipush 27, 2) := by decide +kernel
theorem d_2_20_6 : decode prog_2_method_20_code 6 = .ok (.invokevirtual 44, 3) := by decide +kernel
theorem d_2_20_9 : decode prog_2_method_20_code 9 = .ok (.ifCond .eq 19, 3) := by decide +kernel
theorem d_2_20_12 : decode prog_2_method_20_code 12 = .ok (.aload_n 0, 1) := by decide +kernel
theorem d_2_20_13 : decode prog_2_method_20_code 13 = .ok (.getfield 9, 3) := by decide +kernel
theorem d_2_20_16 : decode prog_2_method_20_code 16 = .ok (.invokevirtual 179, 3) := by decide +kernel
theorem d_2_20_19 : decode prog_2_method_20_code 19 = .ok (.bipush 40, 2) := by decide +kernel
theorem d_2_20_21 : decode prog_2_method_20_code 21 = .ok (.if_icmp .ne 7, 3) := by decide +kernel
theorem d_2_20_24 : decode prog_2_method_20_code 24 = .ok (.iconst 1, 1) := by decide +kernel
theorem d_2_20_25 : decode prog_2_method_20_code 25 = .ok (.goto 4, 3) := by decide +kernel
theorem d_2_20_28 : decode prog_2_method_20_code 28 = .ok (.iconst 0, 1) := by decide +kernel
theorem d_2_20_29 : decode prog_2_method_20_code 29 = .ok (.ireturn, 1) := by decide +kernel
theorem d_2_21_0 : decode prog_2_method_21_code 0 = .ok (.aload_n 0, 1) := by decide +kernel
theorem d_2_21_1 : decode prog_2_method_21_code 1 = .ok (.getfield 9, 3) := by decide +kernel
theorem d_2_21_4 : decode prog_2_method_21_code 4 = .ok (.invokevirtual 182, 3) := by decide +kernel
theorem d_2_21_7 : decode prog_2_method_21_code 7 = .ok (.lookupswitch 142 #[(1, 57), (11, 109), (14, 116), (19, 102), (26, 123), (27, 64)], 57) := by decide +kernel
theorem d_2_21_64 : decode prog_2_method_21_code 64 = .ok (.aload_n 0, 1) := by decide +kernel
theorem d_2_21_65 : decode prog_2_method_21_code 65 = .ok (.invokevirtual 41, 3) := by decide +kernel
theorem d_2_21_68 : decode prog_2_method_21_code 68 = .ok (.goto 81, 3) := by decide +kernel
theorem d_2_21_71 : decode prog_2_method_21_code 71 = .ok (.aload_n 0, 1) := by decide +kernel
theorem d_2_21_72 : decode prog_2_method_21_code 72 = .ok (.getfield 9, 3) := by decide +kernel
theorem d_2_21_75 : decode prog_2_method_21_code 75 = .ok (.invokevirtual 179, 3) := by decide +kernel
theorem d_2_21_78 : decode prog_2_method_21_code 78 = .ok (.bipush 47, 2) := by decide +kernel
theorem d_2_21_80 : decode prog_2_method_21_code 80 = .ok (.if_icmp .eq 15, 3) := by decide +kernel
theorem d_2_21_83 : decode prog_2_method_21_code 83 = .ok (.aload_n 0, 1) := by decide +kernel
theorem d_2_21_84 : decode prog_2_method_21_code 84 = .ok (.getfield 9, 3) := by decide +kernel
theorem d_2_21_87 : decode prog_2_method_21_code 87 = .ok (.invokevirtual 179, 3) := by decide +kernel
theorem d_2_21_90 : decode prog_2_method_21_code 90 = .ok (.bipush 36, 2) := by decide +kernel
theorem d_2_21_92 : decode prog_2_method_21_code 92 = .ok (.if_icmp .ne 10, 3) := by decide +kernel
theorem d_2_21_95 : decode prog_2_method_21_code 95 = .ok (.aload_n 0, 1) := by decide +kernel
theorem d_2_21_96 : decode prog_2_method_21_code 96 = .ok (.invokevirtual 185, 3) := by decide +kernel
theorem d_2_21_99 : decode prog_2_method_21_code 99 = .ok (.goto 50, 3) := by decide +kernel
theorem d_2_21_102 : decode prog_2_method_21_code 102 = .ok (.aload_n 0, 1) := by decide +kernel
theorem d_2_21_103 : decode prog_2_method_21_code 103 = .ok (.invokevirtual 188, 3) := by decide +kernel
theorem d_2_21_106 : decode prog_2_method_21_code 106 = .ok (.goto 43, 3) := by decide +kernel
theorem d_2_21_109 : decode prog_2_method_21_code 109 = .ok (.aload_n 0, 1) := by decide +kernel
theorem d_2_21_110 : decode prog_2_method_21_code 110 = .ok (.invokevirtual 191, 3) := by decide +kernel
theorem d_2_21_113 : decode prog_2_method_21_code 113 = .ok (.goto 36, 3) := by decide +kernel
theorem d_2_21_116 : decode prog_2_method_21_code 116 = .ok (.aload_n 0, 1) := by decide +kernel
theorem d_2_21_117 : decode prog_2_method_21_code 117 = .ok (.invokevirtual 194, 3) := by decide +kernel
theorem d_2_21_120 : decode prog_2_method_21_code 120 = .ok (.goto 29, 3) := by decide +kernel
theorem d_2_21_123 : decode prog_2_method_21_code 123 = .ok (.aload_n 0, 1) := by decide +kernel
theorem d_2_21_124 : decode prog_2_method_21_code 124 = .ok (.invokevirtual 197, 3) := by decide +kernel
theorem d_2_21_127 : decode prog_2_method_21_code 127 = .ok (.goto 22, 3) := by decide +kernel
theorem d_2_21_130 : decode prog_2_method_21_code 130 = .ok (.aload_n 0, 1) := by decide +kernel
theorem d_2_21_131 : decode prog_2_method_21_code 131 = .ok (.getfield 9, 3) := by decide +kernel
theorem d_2_21_134 : decode prog_2_method_21_code 134 = .ok (.invokevirtual 200, 3) := by decide +kernel
theorem d_2_21_137 : decode prog_2_method_21_code 137 = .ok (.aload_n 0, 1) := by decide +kernel
theorem d_2_21_138 : decode prog_2_method_21_code 138 = .ok (.getfield 28, 3) := by decide +kernel
theorem d_2_21_141 : decode prog_2_method_21_code 141 = .ok (.iconst 1, 1) := by decide +kernel
theorem d_2_21_142 : decode prog_2_method_21_code 142 = .ok (.invokevirtual 203, 3) := by decide +kernel
theorem d_2_21_145 : decode prog_2_method_21_code 145 = .ok (.pop, 1) := by decide +kernel
theorem d_2_21_146 : decode prog_2_method_21_code 146 = .ok (.goto 3, 3) := by decide +kernel
theorem d_2_21_149 : decode prog_2_method_21_code 149 = .ok (.return_, 1) := by decide +kernel
theorem d_2_22_0 : decode prog_2_method_22_code 0 = .ok (.iconst 0, 1) := by decide +kernel
theorem d_2_22_1 : decode prog_2_method_22_code 1 = .ok (.istore_n 1, 1) := by decide +kernel
theorem d_2_22_2 : decode prog_2_method_22_code 2 = .ok (.iconst 0, 1) := by decide +kernel
theorem d_2_22_3 : decode prog_2_method_22_code 3 = .ok (.istore_n 2, 1) := by decide +kernel
theorem d_2_22_4 : decode prog_2_method_22_code 4 = .ok (.iload_n 2, 1) := by decide +kernel
theorem d_2_22_5 : decode prog_2_method_22_code 5 = .ok (.sipush 3001, 3) := by decide +kernel
theorem d_2_22_8 : decode prog_2_method_22_code 8 = .ok (.if_icmp .ge 115, 3) := by decide +kernel
theorem d_2_22_11 : decode prog_2_method_22_code 11 = .ok (.iload_n 2, 1) := by decide +kernel
theorem d_2_22_12 : decode prog_2_method_22_code 12 = .ok (.ifCond .eq 13, 3) := by decide +kernel
theorem d_2_22_15 : decode prog_2_method_22_code 15 = .ok (.aload_n 0, 1) := by decide +kernel
theorem d_2_22_16 : decode prog_2_method_22_code 16 = .ok (.getfield 9, 3) := by decide +kernel
theorem d_2_22_19 : decode prog_2_method_22_code 19 = .ok (.invokevirtual 206, 3) := by decide +kernel
theorem d_2_22_22 : decode prog_2_method_22_code 22 = .ok (.ifCond .eq 101, 3) := by decide +kernel
theorem d_2_22_25 : decode prog_2_method_22_code 25 = .ok (.aload_n 0, 1) := by decide +kernel
theorem d_2_22_26 : decode prog_2_method_22_code 26 = .ok (.getfield 9, 3) := by decide +kernel
theorem d_2_22_29 : decode prog_2_method_22_code 29 = .ok (.invokevirtual 132, 3) := by decide +kernel
theorem d_2_22_32 : decode prog_2_method_22_code 32 = .ok (.istore_n 3, 1) := by decide +kernel
theorem d_2_22_33 : decode prog_2_method_22_code 33 = .ok (.aload_n 0, 1) := by decide +kernel
theorem d_2_22_34 : decode prog_2_method_22_code 34 = .ok (.getfield 15, 3) := by decide +kernel
theorem d_2_22_37 : decode prog_2_method_22_code 37 = .ok (.invokevirtual 135, 3) := by decide +kernel
theorem d_2_22_40 : decode prog_2_method_22_code 40 = .ok (.istore 4, 2) := by decide +kernel
theorem d_2_22_42 : decode prog_2_method_22_code 42 = .ok (.aload_n 0, 1) := by decide +kernel
theorem d_2_22_43 : decode prog_2_method_22_code 43 = .ok (.getfield 9, 3) := by decide +kernel
theorem d_2_22_46 : decode prog_2_method_22_code 46 = .ok (.bipush 36, 2) := by decide +kernel
theorem d_2_22_48 : decode prog_2_method_22_code 48 = .ok (.invokevirtual 44, 3) := by decide +kernel
theorem d_2_22_51 : decode prog_2_method_22_code 51 = .ok (.ifCond .eq 23, 3) := by decide +kernel
theorem d_2_22_54 : decode prog_2_method_22_code 54 = .ok (.aload_n 0, 1) := by decide +kernel
theorem d_2_22_55 : decode prog_2_method_22_code 55 = .ok (.getfield 19, 3) := by decide +kernel
theorem d_2_22_58 : decode prog_2_method_22_code 58 = .ok (.iload 4, 2) := by decide +kernel
theorem d_2_22_60 : decode prog_2_method_22_code 60 = .ok (.aload_n 0, 1) := by decide +kernel
theorem d_2_22_61 : decode prog_2_method_22_code 61 = .ok (.getfield 28, 3) := by decide +kernel
theorem d_2_22_64 : decode prog_2_method_22_code 64 = .ok (.invokevirtual 209, 3) := by decide +kernel
theorem d_2_22_67 : decode prog_2_method_22_code 67 = .ok (.iload_n 3, 1) := by decide +kernel
theorem d_2_22_68 : decode prog_2_method_22_code 68 = .ok (.invokevirtual 212, 3) := by decide +kernel
theorem d_2_22_71 : decode prog_2_method_22_code 71 = .ok (.goto 13, 3) := by decide +kernel
theorem d_2_22_74 : decode prog_2_method_22_code 74 = .ok (.aload_n 0, 1) := by decide +kernel
theorem d_2_22_75 : decode prog_2_method_22_code 75 = .ok (.getfield 19, 3) := by decide +kernel
theorem d_2_22_78 : decode prog_2_method_22_code 78 = .ok (.iload 4, 2) := by decide +kernel
theorem d_2_22_80 : decode prog_2_method_22_code 80 = .ok (.iload_n 3, 1) := by decide +kernel
theorem d_2_22_81 : decode prog_2_method_22_code 81 = .ok (.invokevirtual 216, 3) := by decide +kernel
theorem d_2_22_84 : decode prog_2_method_22_code 84 = .ok (.istore 5, 2) := by decide +kernel
theorem d_2_22_86 : decode prog_2_method_22_code 86 = .ok (.aload_n 0, 1) := by decide +kernel
theorem d_2_22_87 : decode prog_2_method_22_code 87 = .ok (.getfield 19, 3) := by decide +kernel
theorem d_2_22_90 : decode prog_2_method_22_code 90 = .ok (.iload 5, 2) := by decide +kernel
theorem d_2_22_92 : decode prog_2_method_22_code 92 = .ok (.iload_n 1, 1) := by decide +kernel
theorem d_2_22_93 : decode prog_2_method_22_code 93 = .ok (.iload_n 3, 1) := by decide +kernel
theorem d_2_22_94 : decode prog_2_method_22_code 94 = .ok (.invokevirtual 219, 3) := by decide +kernel
theorem d_2_22_97 : decode prog_2_method_22_code 97 = .ok (.aload_n 0, 1) := by decide +kernel
theorem d_2_22_98 : decode prog_2_method_22_code 98 = .ok (.getfield 9, 3) := by decide +kernel
theorem d_2_22_101 : decode prog_2_method_22_code 101 = .ok (.bipush 47, 2) := by decide +kernel
theorem d_2_22_103 : decode prog_2_method_22_code 103 = .ok (.invokevirtual 67, 3) := by decide +kernel
theorem d_2_22_106 : decode prog_2_method_22_code 106 = .ok (.iload_n 2, 1) := by decide +kernel
theorem d_2_22_107 : decode prog_2_method_22_code 107 = .ok (.ifCond .ne 8, 3) := by decide +kernel
theorem d_2_22_110 : decode prog_2_method_22_code 110 = .ok (.iload 5, 2) := by decide +kernel
theorem d_2_22_112 : decode prog_2_method_22_code 112 = .ok (.goto 4, 3) := by decide +kernel
theorem d_2_22_115 : decode prog_2_method_22_code 115 = .ok (.iload_n 1, 1) := by decide +kernel
theorem d_2_22_116 : decode prog_2_method_22_code 116 = .ok (.istore_n 1, 1) := by decide +kernel
theorem d_2_22_117 : decode prog_2_method_22_code 117 = .ok (.iinc 2 1, 3) := by decide +kernel
theorem d_2_22_120 : decode prog_2_method_22_code 120 = .ok (.goto (-116), 3) := by decide +kernel
theorem d_2_22_123 : decode prog_2_method_22_code 123 = .ok (.aload_n 0, 1) := by decide +kernel
theorem d_2_22_124 : decode prog_2_method_22_code 124 = .ok (.getfield 28, 3) := by decide +kernel
theorem d_2_22_127 : decode prog_2_method_22_code 127 = .ok (.iload_n 1, 1) := by decide +kernel
theorem d_2_22_128 : decode prog_2_method_22_code 128 = .ok (.invokevirtual 118, 3) := by decide +kernel
theorem d_2_22_131 : decode prog_2_method_22_code 131 = .ok (.pop, 1) := by decide +kernel
theorem d_2_22_132 : decode prog_2_method_22_code 132 = .ok (.return_, 1) := by decide +kernel
theorem d_2_23_0 : decode prog_2_method_23_code 0 = .ok (.aload_n 0, 1) := by decide +kernel
theorem d_2_23_1 : decode prog_2_method_23_code 1 = .ok (.getfield 9, 3) := by decide +kernel
theorem d_2_23_4 : decode prog_2_method_23_code 4 = .ok (.invokevirtual 132, 3) := by decide +kernel
theorem d_2_23_7 : decode prog_2_method_23_code 7 = .ok (.istore_n 1, 1) := by decide +kernel
theorem d_2_23_8 : decode prog_2_method_23_code 8 = .ok (.aload_n 0, 1) := by decide +kernel
theorem d_2_23_9 : decode prog_2_method_23_code 9 = .ok (.getfield 15, 3) := by decide +kernel
theorem d_2_23_12 : decode prog_2_method_23_code 12 = .ok (.invokevirtual 135, 3) := by decide +kernel
theorem d_2_23_15 : decode prog_2_method_23_code 15 = .ok (.istore_n 2, 1) := by decide +kernel
theorem d_2_23_16 : decode prog_2_method_23_code 16 = .ok (.aload_n 0, 1) := by decide +kernel
theorem d_2_23_17 : decode prog_2_method_23_code 17 = .ok (.getfield 9, 3) := by decide +kernel
theorem d_2_23_20 : decode prog_2_method_23_code 20 = .ok (.bipush 34, 2) := by decide +kernel
theorem d_2_23_22 : decode prog_2_method_23_code 22 = .ok (.invokevirtual 44, 3) := by decide +kernel
