theorem d_4_15_7 : decode prog_4_method_15_code 7 = .ok (.istore_n 1, 1) := by decide +kernel
theorem d_4_15_8 : decode prog_4_method_15_code 8 = .ok (.aload_n 0, 1) := by decide +kernel
theorem d_4_15_9 : decode prog_4_method_15_code 9 = .ok (.getfield 15, 3) := by decide +kernel
theorem d_4_15_12 : decode prog_4_method_15_code 12 = .ok (.invokevirtual 108, 3) := by decide +kernel
theorem d_4_15_15 : decode prog_4_method_15_code 15 = .ok (.istore_n 2, 1) := by decide +kernel
theorem d_4_15_16 : decode prog_4_method_15_code 16 = .ok (.aload_n 0, 1) := by decide +kernel
theorem d_4_15_17 : decode prog_4_method_15_code 17 = .ok (.getfield 9, 3) := by decide +kernel
theorem d_4_15_20 : decode prog_4_method_15_code 20 = .ok (.bipush 36, 2) := by decide +kernel
theorem d_4_15_22 : decode prog_4_method_15_code 22 = .ok (.invokevirtual 29, 3) := by decide +kernel
theorem d_4_15_25 : decode prog_4_method_15_code 25 = .ok (.ifCond .eq 17, 3) := by decide +kernel
theorem d_4_15_28 : decode prog_4_method_15_code 28 = .ok (.aload_n 0, 1) := by decide +kernel
theorem d_4_15_29 : decode prog_4_method_15_code 29 = .ok (.getfield 19, 3) := by decide +kernel
theorem d_4_15_32 : decode prog_4_method_15_code 32 = .ok (.iload_n 2, 1) := by decide +kernel
theorem d_4_15_33 : decode prog_4_method_15_code 33 = .ok (.aload_n 0, 1) := by decide +kernel
theorem d_4_15_34 : decode prog_4_method_15_code 34 = .ok (.invokevirtual 113, 3) := by decide +kernel
theorem d_4_15_37 : decode prog_4_method_15_code 37 = .ok (.iload_n 1, 1) := by decide +kernel
theorem d_4_15_38 : decode prog_4_method_15_code 38 = .ok (.invokevirtual 116, 3) := by decide +kernel
theorem d_4_15_41 : decode prog_4_method_15_code 41 = .ok (.ireturn, 1) := by decide +kernel
theorem d_4_15_42 : decode prog_4_method_15_code 42 = .ok (.aload_n 0, 1) := by decide +kernel
theorem d_4_15_43 : decode prog_4_method_15_code 43 = .ok (.getfield 9, 3) := by decide +kernel
theorem d_4_15_46 : decode prog_4_method_15_code 46 = .ok (.bipush 34, 2) := by decide +kernel
theorem d_4_15_48 : decode prog_4_method_15_code 48 = .ok (.invokevirtual 29, 3) := by decide +kernel
theorem d_4_15_51 : decode prog_4_method_15_code 51 = .ok (.ifCond .eq 18, 3) := by decide +kernel
theorem d_4_15_54 : decode prog_4_method_15_code 54 = .ok (.aload_n 0, 1) := by decide +kernel
theorem d_4_15_55 : decode prog_4_method_15_code 55 = .ok (.getfield 19, 3) := by decide +kernel
theorem d_4_15_58 : decode prog_4_method_15_code 58 = .ok (.iload_n 2, 1) := by decide +kernel
theorem d_4_15_59 : decode prog_4_method_15_code 59 = .ok (.aload_n 0, 1) := by decide +kernel
theorem d_4_15_60 : decode prog_4_method_15_code 60 = .ok (.iload_n 2, 1) := by decide +kernel
theorem d_4_15_61 : decode prog_4_method_15_code 61 = .ok (.invokevirtual 120, 3) := by decide +kernel
theorem d_4_15_64 : decode prog_4_method_15_code 64 = .ok (.iload_n 1, 1) := by decide +kernel
theorem d_4_15_65 : decode prog_4_method_15_code 65 = .ok (.invokevirtual 123, 3) := by decide +kernel
theorem d_4_15_68 : decode prog_4_method_15_code 68 = .ok (.ireturn, 1) := by decide +kernel
theorem d_4_15_69 : decode prog_4_method_15_code 69 = .ok (.aload_n 0, 1) := by decide +kernel
theorem d_4_15_70 : decode prog_4_method_15_code 70 = .ok (.getfield 19, 3) := by decide +kernel
theorem d_4_15_73 : decode prog_4_method_15_code 73 = .ok (.iload_n 2, 1) := by decide +kernel
theorem d_4_15_74 : decode prog_4_method_15_code 74 = .ok (.iload_n 1, 1) := by decide +kernel
theorem d_4_15_75 : decode prog_4_method_15_code 75 = .ok (.invokevirtual 126, 3) := by decide +kernel
theorem d_4_15_78 : decode prog_4_method_15_code 78 = .ok (.ireturn, 1) := by decide +kernel
theorem d_4_16_0 : decode prog_4_method_16_code 0 = .ok (.iconst 1, 1) := by decide +kernel
theorem d_4_16_1 : decode prog_4_method_16_code 1 = .ok (.istore_n 1, 1) := by decide +kernel
theorem d_4_16_2 : decode prog_4_method_16_code 2 = .ok (.aload_n 0, 1) := by decide +kernel
theorem d_4_16_3 : decode prog_4_method_16_code 3 = .ok (.getfield 9, 3) := by decide +kernel
theorem d_4_16_6 : decode prog_4_method_16_code 6 = .ok (.bipush 36, 2) := by decide +kernel
theorem d_4_16_8 : decode prog_4_method_16_code 8 = .ok (.invokevirtual 45, 3) := by decide +kernel
theorem d_4_16_11 : decode prog_4_method_16_code 11 = .ok (.aload_n 0, 1) := by decide +kernel
theorem d_4_16_12 : decode prog_4_method_16_code 12 = .ok (.iconst 1, 1) := by decide +kernel
theorem d_4_16_13 : decode prog_4_method_16_code 13 = .ok (.invokevirtual 49, 3) := by decide +kernel
theorem d_4_16_16 : decode prog_4_method_16_code 16 = .ok (.pop, 1) := by decide +kernel
theorem d_4_16_17 : decode prog_4_method_16_code 17 = .ok (.aload_n 0, 1) := by decide +kernel
theorem d_4_16_18 : decode prog_4_method_16_code 18 = .ok (.getfield 9, 3) := by decide +kernel
theorem d_4_16_21 : decode prog_4_method_16_code 21 = .ok (.bipush 38, 2) := by decide +kernel
theorem d_4_16_23 : decode prog_4_method_16_code 23 = .ok (.invokevirtual 62, 3) := by decide +kernel
theorem d_4_16_26 : decode prog_4_method_16_code 26 = .ok (.ifCond .eq 11, 3) := by decide +kernel
theorem d_4_16_29 : decode prog_4_method_16_code 29 = .ok (.iconst 2, 1) := by decide +kernel
theorem d_4_16_30 : decode prog_4_method_16_code 30 = .ok (.istore_n 1, 1) := by decide +kernel
theorem d_4_16_31 : decode prog_4_method_16_code 31 = .ok (.aload_n 0, 1) := by decide +kernel
theorem d_4_16_32 : decode prog_4_method_16_code 32 = .ok (.iconst 1, 1) := by decide +kernel
theorem d_4_16_33 : decode prog_4_method_16_code 33 = .ok (.invokevirtual 49, 3) := by decide +kernel
theorem d_4_16_36 : decode prog_4_method_16_code 36 = .ok (.pop, 1) := by decide +kernel
theorem d_4_16_37 : decode prog_4_method_16_code 37 = .ok (.aload_n 0, 1) := by decide +kernel
theorem d_4_16_38 : decode prog_4_method_16_code 38 = .ok (.getfield 9, 3) := by decide +kernel
theorem d_4_16_41 : decode prog_4_method_16_code 41 = .ok (.bipush 37, 2) := by decide +kernel
theorem d_4_16_43 : decode prog_4_method_16_code 43 = .ok (.invokevirtual 105, 3) := by decide +kernel
theorem d_4_16_46 : decode prog_4_method_16_code 46 = .ok (.iload_n 1, 1) := by decide +kernel
theorem d_4_16_47 : decode prog_4_method_16_code 47 = .ok (.ireturn, 1) := by decide +kernel
theorem d_4_17_0 : decode prog_4_method_17_code 0 = .ok (.iconst 1, 1) := by decide +kernel
theorem d_4_17_1 : decode prog_4_method_17_code 1 = .ok (.istore_n 2, 1) := by decide +kernel
theorem d_4_17_2 : decode prog_4_method_17_code 2 = .ok (.aload_n 0, 1) := by decide +kernel
theorem d_4_17_3 : decode prog_4_method_17_code 3 = .ok (.getfield 19, 3) := by decide +kernel
theorem d_4_17_6 : decode prog_4_method_17_code 6 = .ok (.iload_n 1, 1) := by decide +kernel
theorem d_4_17_7 : decode prog_4_method_17_code 7 = .ok (.invokevirtual 130, 3) := by decide +kernel
theorem d_4_17_10 : decode prog_4_method_17_code 10 = .ok (.istore_n 3, 1) := by decide +kernel
theorem d_4_17_11 : decode prog_4_method_17_code 11 = .ok (.aload_n 0, 1) := by decide +kernel
theorem d_4_17_12 : decode prog_4_method_17_code 12 = .ok (.getfield 9, 3) := by decide +kernel
theorem d_4_17_15 : decode prog_4_method_17_code 15 = .ok (.bipush 34, 2) := by decide +kernel
theorem d_4_17_17 : decode prog_4_method_17_code 17 = .ok (.invokevirtual 45, 3) := by decide +kernel
theorem d_4_17_20 : decode prog_4_method_17_code 20 = .ok (.aload_n 0, 1) := by decide +kernel
theorem d_4_17_21 : decode prog_4_method_17_code 21 = .ok (.iload_n 3, 1) := by decide +kernel
theorem d_4_17_22 : decode prog_4_method_17_code 22 = .ok (.invokevirtual 133, 3) := by decide +kernel
theorem d_4_17_25 : decode prog_4_method_17_code 25 = .ok (.iconst 0, 1) := by decide +kernel
theorem d_4_17_26 : decode prog_4_method_17_code 26 = .ok (.istore 4, 2) := by decide +kernel
theorem d_4_17_28 : decode prog_4_method_17_code 28 = .ok (.iload 4, 2) := by decide +kernel
theorem d_4_17_30 : decode prog_4_method_17_code 30 = .ok (.sipush 3001, 3) := by decide +kernel
theorem d_4_17_33 : decode prog_4_method_17_code 33 = .ok (.if_icmp .ge 38, 3) := by decide +kernel
theorem d_4_17_36 : decode prog_4_method_17_code 36 = .ok (.aload_n 0, 1) := by decide +kernel
theorem d_4_17_37 : decode prog_4_method_17_code 37 = .ok (.getfield 9, 3) := by decide +kernel
theorem d_4_17_40 : decode prog_4_method_17_code 40 = .ok (.bipush 38, 2) := by decide +kernel
theorem d_4_17_42 : decode prog_4_method_17_code 42 = .ok (.invokevirtual 62, 3) := by decide +kernel
theorem d_4_17_45 : decode prog_4_method_17_code 45 = .ok (.ifCond .eq 26, 3) := by decide +kernel
theorem d_4_17_48 : decode prog_4_method_17_code 48 = .ok (.iinc 2 1, 3) := by decide +kernel
theorem d_4_17_51 : decode prog_4_method_17_code 51 = .ok (.aload_n 0, 1) := by decide +kernel
theorem d_4_17_52 : decode prog_4_method_17_code 52 = .ok (.getfield 19, 3) := by decide +kernel
theorem d_4_17_55 : decode prog_4_method_17_code 55 = .ok (.iload_n 3, 1) := by decide +kernel
theorem d_4_17_56 : decode prog_4_method_17_code 56 = .ok (.invokevirtual 136, 3) := by decide +kernel
theorem d_4_17_59 : decode prog_4_method_17_code 59 = .ok (.istore_n 3, 1) := by decide +kernel
theorem d_4_17_60 : decode prog_4_method_17_code 60 = .ok (.aload_n 0, 1) := by decide +kernel
theorem d_4_17_61 : decode prog_4_method_17_code 61 = .ok (.iload_n 3, 1) := by decide +kernel
theorem d_4_17_62 : decode prog_4_method_17_code 62 = .ok (.invokevirtual 133, 3) := by decide +kernel
theorem d_4_17_65 : decode prog_4_method_17_code 65 = .ok (.iinc 4 1, 3) := by decide +kernel
theorem d_4_17_68 : decode prog_4_method_17_code 68 = .ok (.goto (-40), 3) := by decide +kernel
theorem d_4_17_71 : decode prog_4_method_17_code 71 = .ok (.aload_n 0, 1) := by decide +kernel
theorem d_4_17_72 : decode prog_4_method_17_code 72 = .ok (.getfield 9, 3) := by decide +kernel
theorem d_4_17_75 : decode prog_4_method_17_code 75 = .ok (.bipush 35, 2) := by decide +kernel
theorem d_4_17_77 : decode prog_4_method_17_code 77 = .ok (.invokevirtual 105, 3) := by decide +kernel
theorem d_4_17_80 : decode prog_4_method_17_code 80 = .ok (.iload_n 2, 1) := by decide +kernel
theorem d_4_17_81 : decode prog_4_method_17_code 81 = .ok (.ireturn, 1) := by decide +kernel
theorem d_4_18_0 : decode prog_4_method_18_code 0 = .ok (.aload_n 0, 1) := by decide +kernel
theorem d_4_18_1 : decode prog_4_method_18_code 1 = .ok (.getfield 9, 3) := by decide +kernel
theorem d_4_18_4 : decode prog_4_method_18_code 4 = .ok (.invokevirtual 23, 3) := by decide +kernel
theorem d_4_18_7 : decode prog_4_method_18_code 7 = .ok (.istore_n 2, 1) := by decide +kernel
theorem d_4_18_8 : decode prog_4_method_18_code 8 = .ok (.aload_n 0, 1) := by decide +kernel
theorem d_4_18_9 : decode prog_4_method_18_code 9 = .ok (.getfield 19, 3) := by decide +kernel
theorem d_4_18_12 : decode prog_4_method_18_code 12 = .ok (.iload_n 1, 1) := by decide +kernel
theorem d_4_18_13 : decode prog_4_method_18_code 13 = .ok (.invokevirtual 139, 3) := by decide +kernel
theorem d_4_18_16 : decode prog_4_method_18_code 16 = .ok (.ifCond .eq 19, 3) := by decide +kernel
theorem d_4_18_19 : decode prog_4_method_18_code 19 = .ok (.aload_n 0, 1) := by decide +kernel
theorem d_4_18_20 : decode prog_4_method_18_code 20 = .ok (.aload_n 0, 1) := by decide +kernel
theorem d_4_18_21 : decode prog_4_method_18_code 21 = .ok (.getfield 19, 3) := by decide +kernel
theorem d_4_18_24 : decode prog_4_method_18_code 24 = .ok (.iload_n 1, 1) := by decide +kernel
theorem d_4_18_25 : decode prog_4_method_18_code 25 = .ok (.invokevirtual 142, 3) := by decide +kernel
theorem d_4_18_28 : decode prog_4_method_18_code 28 = .ok (.invokevirtual 49, 3) := by decide +kernel
theorem d_4_18_31 : decode prog_4_method_18_code 31 = .ok (.pop, 1) := by decide +kernel
theorem d_4_18_32 : decode prog_4_method_18_code 32 = .ok (.goto 86, 3) := by decide +kernel
theorem d_4_18_35 : decode prog_4_method_18_code 35 = .ok (.aload_n 0, 1) := by decide +kernel
theorem d_4_18_36 : decode prog_4_method_18_code 36 = .ok (.invokevirtual 145, 3) := by decide +kernel
theorem d_4_18_39 : decode prog_4_method_18_code 39 = .ok (.ifCond .eq 22, 3) := by decide +kernel
theorem d_4_18_42 : decode prog_4_method_18_code 42 = .ok (.aload_n 0, 1) := by decide +kernel
theorem d_4_18_43 : decode prog_4_method_18_code 43 = .ok (.getfield 19, 3) := by decide +kernel
theorem d_4_18_46 : decode prog_4_method_18_code 46 = .ok (.aload_n 0, 1) := by decide +kernel
theorem d_4_18_47 : decode prog_4_method_18_code 47 = .ok (.getfield 15, 3) := by decide +kernel
theorem d_4_18_50 : decode prog_4_method_18_code 50 = .ok (.invokevirtual 108, 3) := by decide +kernel
theorem d_4_18_53 : decode prog_4_method_18_code 53 = .ok (.iload_n 1, 1) := by decide +kernel
theorem d_4_18_54 : decode prog_4_method_18_code 54 = .ok (.iload_n 2, 1) := by decide +kernel
theorem d_4_18_55 : decode prog_4_method_18_code 55 = .ok (.invokevirtual 148, 3) := by decide +kernel
theorem d_4_18_58 : decode prog_4_method_18_code 58 = .ok (.goto 60, 3) := by decide +kernel
theorem d_4_18_61 : decode prog_4_method_18_code 61 = .ok (.aload_n 0, 1) := by decide +kernel
theorem d_4_18_62 : decode prog_4_method_18_code 62 = .ok (.getfield 9, 3) := by decide +kernel
theorem d_4_18_65 : decode prog_4_method_18_code 65 = .ok (.bipush 11, 2) := by decide +kernel
theorem d_4_18_67 : decode prog_4_method_18_code 67 = .ok (.invokevirtual 29, 3) := by decide +kernel
theorem d_4_18_70 : decode prog_4_method_18_code 70 = .ok (.istore_n 3, 1) := by decide +kernel
theorem d_4_18_71 : decode prog_4_method_18_code 71 = .ok (.aload_n 0, 1) := by decide +kernel
theorem d_4_18_72 : decode prog_4_method_18_code 72 = .ok (.iconst 0, 1) := by decide +kernel
theorem d_4_18_73 : decode prog_4_method_18_code 73 = .ok (.invokevirtual 49, 3) := by decide +kernel
theorem d_4_18_76 : decode prog_4_method_18_code 76 = .ok (.istore 4, 2) := by decide +kernel
theorem d_4_18_78 : decode prog_4_method_18_code 78 = .ok (.iload_n 3, 1) := by decide +kernel
theorem d_4_18_79 : decode prog_4_method_18_code 79 = .ok (.ifCond .eq 12, 3) := by decide +kernel
theorem d_4_18_82 : decode prog_4_method_18_code 82 = .ok (.iload 4, 2) := by decide +kernel
theorem d_4_18_84 : decode prog_4_method_18_code 84 = .ok (.ifCond .ne 7, 3) := by decide +kernel
theorem d_4_18_87 : decode prog_4_method_18_code 87 = .ok (.iconst 1, 1) := by decide +kernel
theorem d_4_18_88 : decode prog_4_method_18_code 88 = .ok (.goto 4, 3) := by decide +kernel
theorem d_4_18_91 : decode prog_4_method_18_code 91 = .ok (.iconst 0, 1) := by decide +kernel
theorem d_4_18_92 : decode prog_4_method_18_code 92 = .ok (.istore 5, 2) := by decide +kernel
theorem d_4_18_94 : decode prog_4_method_18_code 94 = .ok (.iload 5, 2) := by decide +kernel
theorem d_4_18_96 : decode prog_4_method_18_code 96 = .ok (.ifCond .ne 22, 3) := by decide +kernel
theorem d_4_18_99 : decode prog_4_method_18_code 99 = .ok (.aload_n 0, 1) := by decide +kernel
theorem d_4_18_100 : decode prog_4_method_18_code 100 = .ok (.getfield 19, 3) := by decide +kernel
theorem d_4_18_103 : decode prog_4_method_18_code 103 = .ok (.iload_n 1, 1) := by decide +kernel
theorem d_4_18_104 : decode prog_4_method_18_code 104 = .ok (.invokevirtual 151, 3) := by decide +kernel
theorem d_4_18_107 : decode prog_4_method_18_code 107 = .ok (.ifCond .ne 11, 3) := by decide +kernel
theorem d_4_18_110 : decode prog_4_method_18_code 110 = .ok (.aload_n 0, 1) := by decide +kernel
theorem d_4_18_111 : decode prog_4_method_18_code 111 = .ok (.getfield 15, 3) := by decide +kernel
theorem d_4_18_114 : decode prog_4_method_18_code 114 = .ok (.iload_n 2, 1) := by decide +kernel
theorem d_4_18_115 : decode prog_4_method_18_code 115 = .ok (.invokevirtual 154, 3) := by decide +kernel
theorem d_4_18_118 : decode prog_4_method_18_code 118 = .ok (.return_, 1) := by decide +kernel
theorem d_4_19_0 : decode prog_4_method_19_code 0 = .ok (.aload_n 0, 1) := by decide +kernel
theorem d_4_19_1 : decode prog_4_method_19_code 1 = .ok (.getfield 9, 3) := by decide +kernel
theorem d_4_19_4 : decode prog_4_method_19_code 4 = .ok (.bipush 27, 2) := by decide +kernel
theorem d_4_19_6 : decode prog_4_method_19_code 6 = .ok (.invokevirtual 29, 3) := by decide +kernel
theorem d_4_19_9 : decode prog_4_method_19_code 9 = .ok (.ifCond .eq 31, 3) := by decide +kernel
theorem d_4_19_12 : decode prog_4_method_19_code 12 = .ok (.aload_n 0, 1) := by decide +kernel
theorem d_4_19_13 : decode prog_4_method_19_code 13 = .ok (.getfield 9, 3) := by decide +kernel
theorem d_4_19_16 : decode prog_4_method_19_code 16 = .ok (.invokevirtual 157, 3) := by decide +kernel
theorem d_4_19_19 : decode prog_4_method_19_code 19 = .ok (.bipush 38, 2) := by decide +kernel
theorem d_4_19_21 : decode prog_4_method_19_code 21 = .ok (.if_icmp .eq 15, 3) := by decide +kernel
theorem d_4_19_24 : decode prog_4_method_19_code 24 = .ok (.aload_n 0, 1) := by decide +kernel
theorem d_4_19_25 : decode prog_4_method_19_code 25 = .ok (.getfield 9, 3) := by decide +kernel
theorem d_4_19_28 : decode prog_4_method_19_code 28 = .ok (.invokevirtual 157, 3) := by decide +kernel
theorem d_4_19_31 : decode prog_4_method_19_code 31 = .ok (.bipush 35, 2) := by decide +kernel
theorem d_4_19_33 : decode prog_4_method_19_code 33 = .ok (.if_icmp .ne 7, 3) := by decide +kernel
theorem d_4_19_36 : decode prog_4_method_19_code 36 = .ok (.iconst 1, 1) := by decide +kernel
theorem d_4_19_37 : decode prog_4_method_19_code 37 = .ok (.goto 4, 3) := by decide +kernel
theorem d_4_19_40 : decode prog_4_method_19_code 40 = .ok (.iconst 0, 1) := by decide +kernel
theorem d_4_19_41 : decode prog_4_method_19_code 41 = .ok (.ireturn, 1) := by decide +kernel
theorem d_4_1_0 : decode prog_4_method_1_code 0 = .ok (.aload_n 0, 1) := by decide +kernel
theorem d_4_1_1 : decode prog_4_method_1_code 1 = .ok (.invokespecial 3, 3) := by decide +kernel
theorem d_4_1_4 : decode prog_4_method_1_code 4 = .ok (.aload_n 0, 1) := by decide +kernel
theorem d_4_1_5 : decode prog_4_method_1_code 5 = .ok (.aload_n 1, 1) := by decide +kernel
theorem d_4_1_6 : decode prog_4_method_1_code 6 = .ok (.putfield 9, 3) := by decide +kernel
theorem d_4_1_9 : decode prog_4_method_1_code 9 = .ok (.aload_n 0, 1) := by decide +kernel
theorem d_4_1_10 : decode prog_4_method_1_code 10 = .ok (.aload_n 2, 1) := by decide +kernel
theorem d_4_1_11 : decode prog_4_method_1_code 11 = .ok (.putfield 15, 3) := by decide +kernel
theorem d_4_1_14 : decode prog_4_method_1_code 14 = .ok (.aload_n 0, 1) := by decide +kernel
theorem d_4_1_15 : decode prog_4_method_1_code 15 = .ok (.aload_n 3, 1) := by decide +kernel
theorem d_4_1_16 : decode prog_4_method_1_code 16 = .ok (.putfield 19, 3) := by decide +kernel
theorem d_4_1_19 : decode prog_4_method_1_code 19 = .ok (.return_, 1) := by decide +kernel
theorem d_4_2_0 : decode prog_4_method_2_code 0 = .ok (.aload_n 0, 1) := by decide +kernel
theorem d_4_2_1 : decode prog_4_method_2_code 1 = .ok (.getfield 9, 3) := by decide +kernel
theorem d_4_2_4 : decode prog_4_method_2_code 4 = .ok (.invokevirtual 23, 3) := by decide +kernel
theorem d_4_2_7 : decode prog_4_method_2_code 7 = .ok (.istore_n 2, 1) := by decide +kernel
theorem d_4_2_8 : decode prog_4_method_2_code 8 = .ok (.aload_n 0, 1) := by decide +kernel
theorem d_4_2_9 : decode prog_4_method_2_code 9 = .ok (.getfield 9, 3) := by decide +kernel
theorem d_4_2_12 : decode prog_4_method_2_code 12 = .ok (.bipush 11, 2) := by decide +kernel
theorem d_4_2_14 : decode prog_4_method_2_code 14 = .ok (.invokevirtual 29, 3) := by decide +kernel
theorem d_4_2_17 : decode prog_4_method_2_code 17 = .ok (.ifCond .eq 10, 3) := by decide +kernel
theorem d_4_2_20 : decode prog_4_method_2_code 20 = .ok (.aload_n 0, 1) := by decide +kernel
theorem d_4_2_21 : decode prog_4_method_2_code 21 = .ok (.invokevirtual 33, 3) := by decide +kernel
theorem d_4_2_24 : decode prog_4_method_2_code 24 = .ok (.goto 7, 3) := by decide +kernel
theorem d_4_2_27 : decode prog_4_method_2_code 27 = .ok (.aload_n 0, 1) := by decide +kernel
theorem d_4_2_28 : decode prog_4_method_2_code 28 = .ok (.invokevirtual 36, 3) := by decide +kernel
theorem d_4_2_31 : decode prog_4_method_2_code 31 = .ok (.istore_n 3, 1) := by decide +kernel
theorem d_4_2_32 : decode prog_4_method_2_code 32 = .ok (.aload_n 0, 1) := by decide +kernel
theorem d_4_2_33 : decode prog_4_method_2_code 33 = .ok (.getfield 19, 3) := by decide +kernel
theorem d_4_2_36 : decode prog_4_method_2_code 36 = .ok (.iload_n 3, 1) := by decide +kernel
theorem d_4_2_37 : decode prog_4_method_2_code 37 = .ok (.iload_n 1, 1) := by decide +kernel
theorem d_4_2_38 : decode prog_4_method_2_code 38 = .ok (.iload_n 2, 1) := by decide +kernel
theorem d_4_2_39 : decode prog_4_method_2_code 39 = .ok (.invokevirtual 39, 3) := by decide +kernel
theorem d_4_2_42 : decode prog_4_method_2_code 42 = .ok (.iload_n 3, 1) := by decide +kernel
theorem d_4_2_43 : decode prog_4_method_2_code 43 = .ok (.ireturn, 1) := by decide +kernel
theorem d_4_3_0 : decode prog_4_method_3_code 0 = .ok (.aload_n 0, 1) := by decide +kernel
theorem d_4_3_1 : decode prog_4_method_3_code 1 = .ok (.getfield 9, 3) := by decide +kernel
theorem d_4_3_4 : decode prog_4_method_3_code 4 = .ok (.bipush 11, 2) := by decide +kernel
theorem d_4_3_6 : decode prog_4_method_3_code 6 = .ok (.invokevirtual 45, 3) := by decide +kernel
theorem d_4_3_9 : decode prog_4_method_3_code 9 = .ok (.aload_n 0, 1) := by decide +kernel
theorem d_4_3_10 : decode prog_4_method_3_code 10 = .ok (.iconst 2, 1) := by decide +kernel
theorem d_4_3_11 : decode prog_4_method_3_code 11 = .ok (.invokevirtual 49, 3) := by decide +kernel
theorem d_4_3_14 : decode prog_4_method_3_code 14 = .ok (.pop, 1) := by decide +kernel
theorem d_4_3_15 : decode prog_4_method_3_code 15 = .ok (.aload_n 0, 1) := by decide +kernel
theorem d_4_3_16 : decode prog_4_method_3_code 16 = .ok (.getfield 9, 3) := by decide +kernel
theorem d_4_3_19 : decode prog_4_method_3_code 19 = .ok (.bipush 12, 2) := by decide +kernel
theorem d_4_3_21 : decode prog_4_method_3_code 21 = .ok (.invokevirtual 53, 3) := by decide +kernel
theorem d_4_3_24 : decode prog_4_method_3_code 24 = .ok (.aload_n 0, 1) := by decide +kernel
theorem d_4_3_25 : decode prog_4_method_3_code 25 = .ok (.invokevirtual 36, 3) := by decide +kernel
theorem d_4_3_28 : decode prog_4_method_3_code 28 = .ok (.istore_n 1, 1) := by decide +kernel
theorem d_4_3_29 : decode prog_4_method_3_code 29 = .ok (.aload_n 0, 1) := by decide +kernel
theorem d_4_3_30 : decode prog_4_method_3_code 30 = .ok (.getfield 9, 3) := by decide +kernel
theorem d_4_3_33 : decode prog_4_method_3_code 33 = .ok (.bipush 13, 2) := by decide +kernel
theorem d_4_3_35 : decode prog_4_method_3_code 35 = .ok (.invokevirtual 53, 3) := by decide +kernel
theorem d_4_3_38 : decode prog_4_method_3_code 38 = .ok (.aload_n 0, 1) := by decide +kernel
theorem d_4_3_39 : decode prog_4_method_3_code 39 = .ok (.iload_n 1, 1) := by decide +kernel
theorem d_4_3_40 : decode prog_4_method_3_code 40 = .ok (.invokevirtual 49, 3) := by decide +kernel
theorem d_4_3_43 : decode prog_4_method_3_code 43 = .ok (.pop, 1) := by decide +kernel
theorem d_4_3_44 : decode prog_4_method_3_code 44 = .ok (.aload_n 0, 1) := by decide +kernel
theorem d_4_3_45 : decode prog_4_method_3_code 45 = .ok (.getfield 9, 3) := by decide +kernel
theorem d_4_3_48 : decode prog_4_method_3_code 48 = .ok (.invokevirtual 56, 3) := by decide +kernel
theorem d_4_3_51 : decode prog_4_method_3_code 51 = .ok (.iload_n 1, 1) := by decide +kernel
theorem d_4_3_52 : decode prog_4_method_3_code 52 = .ok (.ireturn, 1) := by decide +kernel
theorem d_4_4_0 : decode prog_4_method_4_code 0 = .ok (.aload_n 0, 1) := by decide +kernel
theorem d_4_4_1 : decode prog_4_method_4_code 1 = .ok (.getfield 9, 3) := by decide +kernel
theorem d_4_4_4 : decode prog_4_method_4_code 4 = .ok (.invokevirtual 23, 3) := by decide +kernel
theorem d_4_4_7 : decode prog_4_method_4_code 7 = .ok (.istore_n 1, 1) := by decide +kernel
theorem d_4_4_8 : decode prog_4_method_4_code 8 = .ok (.aload_n 0, 1) := by decide +kernel
theorem d_4_4_9 : decode prog_4_method_4_code 9 = .ok (.invokevirtual 59, 3) := by decide +kernel
theorem d_4_4_12 : decode prog_4_method_4_code 12 = .ok (.istore_n 2, 1) := by decide +kernel
theorem d_4_4_13 : decode prog_4_method_4_code 13 = .ok (.iconst 0, 1) := by decide +kernel
theorem d_4_4_14 : decode prog_4_method_4_code 14 = .ok (.istore_n 3, 1) := by decide +kernel
theorem d_4_4_15 : decode prog_4_method_4_code 15 = .ok (.iload_n 3, 1) := by decide +kernel
theorem d_4_4_16 : decode prog_4_method_4_code 16 = .ok (.sipush 3001, 3) := by decide +kernel
theorem d_4_4_19 : decode prog_4_method_4_code 19 = .ok (.if_icmp .ge 54, 3) := by decide +kernel
theorem d_4_4_22 : decode prog_4_method_4_code 22 = .ok (.aload_n 0, 1) := by decide +kernel
theorem d_4_4_23 : decode prog_4_method_4_code 23 = .ok (.getfield 9, 3) := by decide +kernel
theorem d_4_4_26 : decode prog_4_method_4_code 26 = .ok (.bipush 24, 2) := by decide +kernel
theorem d_4_4_28 : decode prog_4_method_4_code 28 = .ok (.invokevirtual 62, 3) := by decide +kernel
theorem d_4_4_31 : decode prog_4_method_4_code 31 = .ok (.ifCond .eq 42, 3) := by decide +kernel
theorem d_4_4_34 : decode prog_4_method_4_code 34 = .ok (.aload_n 0, 1) := by decide +kernel
theorem d_4_4_35 : decode prog_4_method_4_code 35 = .ok (.getfield 19, 3) := by decide +kernel
theorem d_4_4_38 : decode prog_4_method_4_code 38 = .ok (.iload_n 2, 1) := by decide +kernel
theorem d_4_4_39 : decode prog_4_method_4_code 39 = .ok (.iconst 2, 1) := by decide +kernel
theorem d_4_4_40 : decode prog_4_method_4_code 40 = .ok (.iload_n 1, 1) := by decide +kernel
theorem d_4_4_41 : decode prog_4_method_4_code 41 = .ok (.invokevirtual 39, 3) := by decide +kernel
theorem d_4_4_44 : decode prog_4_method_4_code 44 = .ok (.aload_n 0, 1) := by decide +kernel
theorem d_4_4_45 : decode prog_4_method_4_code 45 = .ok (.getfield 9, 3) := by decide +kernel
theorem d_4_4_48 : decode prog_4_method_4_code 48 = .ok (.invokevirtual 23, 3) := by decide +kernel
theorem d_4_4_51 : decode prog_4_method_4_code 51 = .ok (.istore_n 1, 1) := by decide +kernel
theorem d_4_4_52 : decode prog_4_method_4_code 52 = .ok (.aload_n 0, 1) := by decide +kernel
theorem d_4_4_53 : decode prog_4_method_4_code 53 = .ok (.getfield 19, 3) := by decide +kernel
theorem d_4_4_56 : decode prog_4_method_4_code 56 = .ok (.aload_n 0, 1) := by decide +kernel
theorem d_4_4_57 : decode prog_4_method_4_code 57 = .ok (.invokevirtual 59, 3) := by decide +kernel
theorem d_4_4_60 : decode prog_4_method_4_code 60 = .ok (.iconst 2, 1) := by decide +kernel
theorem d_4_4_61 : decode prog_4_method_4_code 61 = .ok (.iload_n 1, 1) := by decide +kernel
theorem d_4_4_62 : decode prog_4_method_4_code 62 = .ok (.invokevirtual 39, 3) := by decide +kernel
theorem d_4_4_65 : decode prog_4_method_4_code 65 = .ok (.iconst 2, 1) := by decide +kernel
theorem d_4_4_66 : decode prog_4_method_4_code 66 = .ok (.istore_n 2, 1) := by decide +kernel
theorem d_4_4_67 : decode prog_4_method_4_code 67 = .ok (.iinc 3 1, 3) := by decide +kernel
theorem d_4_4_70 : decode prog_4_method_4_code 70 = .ok (.goto (-55), 3) := by decide +kernel
theorem d_4_4_73 : decode prog_4_method_4_code 73 = .ok (.iload_n 2, 1) := by decide +kernel
theorem d_4_4_74 : decode prog_4_method_4_code 74 = .ok (.ireturn, 1) := by decide +kernel
theorem d_4_5_0 : decode prog_4_method_5_code 0 = .ok (.aload_n 0, 1) := by decide +kernel
theorem d_4_5_1 : decode prog_4_method_5_code 1 = .ok (.getfield 9, 3) := by decide +kernel
theorem d_4_5_4 : decode prog_4_method_5_code 4 = .ok (.invokevirtual 23, 3) := by decide +kernel
theorem d_4_5_7 : decode prog_4_method_5_code 7 = .ok (.istore_n 1, 1) := by decide +kernel
theorem d_4_5_8 : decode prog_4_method_5_code 8 = .ok (.aload_n 0, 1) := by decide +kernel
theorem d_4_5_9 : decode prog_4_method_5_code 9 = .ok (.invokevirtual 65, 3) := by decide +kernel
theorem d_4_5_12 : decode prog_4_method_5_code 12 = .ok (.istore_n 2, 1) := by decide +kernel
theorem d_4_5_13 : decode prog_4_method_5_code 13 = .ok (.iconst 0, 1) := by decide +kernel
theorem d_4_5_14 : decode prog_4_method_5_code 14 = .ok (.istore_n 3, 1) := by decide +kernel
theorem d_4_5_15 : decode prog_4_method_5_code 15 = .ok (.iload_n 3, 1) := by decide +kernel
theorem d_4_5_16 : decode prog_4_method_5_code 16 = .ok (.sipush 3001, 3) := by decide +kernel
theorem d_4_5_19 : decode prog_4_method_5_code 19 = .ok (.if_icmp .ge 54, 3) := by decide +kernel
theorem d_4_5_22 : decode prog_4_method_5_code 22 = .ok (.aload_n 0, 1) := by decide +kernel
theorem d_4_5_23 : decode prog_4_method_5_code 23 = .ok (.getfield 9, 3) := by decide +kernel
theorem d_4_5_26 : decode prog_4_method_5_code 26 = .ok (.bipush 23, 2) := by decide +kernel
theorem d_4_5_28 : decode prog_4_method_5_code 28 = .ok (.invokevirtual 62, 3) := by decide +kernel
theorem d_4_5_31 : decode prog_4_method_5_code 31 = .ok (.ifCond .eq 42, 3) := by decide +kernel
theorem d_4_5_34 : decode prog_4_method_5_code 34 = .ok (.aload_n 0, 1) := by decide +kernel
theorem d_4_5_35 : decode prog_4_method_5_code 35 = .ok (.getfield 19, 3) := by decide +kernel
theorem d_4_5_38 : decode prog_4_method_5_code 38 = .ok (.iload_n 2, 1) := by decide +kernel
theorem d_4_5_39 : decode prog_4_method_5_code 39 = .ok (.iconst 2, 1) := by decide +kernel
theorem d_4_5_40 : decode prog_4_method_5_code 40 = .ok (.iload_n 1, 1) := by decide +kernel
theorem d_4_5_41 : decode prog_4_method_5_code 41 = .ok (.invokevirtual 39, 3) := by decide +kernel
theorem d_4_5_44 : decode prog_4_method_5_code 44 = .ok (.aload_n 0, 1) := by decide +kernel
theorem d_4_5_45 : decode prog_4_method_5_code 45 = .ok (.getfield 9, 3) := by decide +kernel
theorem d_4_5_48 : decode prog_4_method_5_code 48 = .ok (.invokevirtual 23, 3) := by decide +kernel
theorem d_4_5_51 : decode prog_4_method_5_code 51 = .ok (.istore_n 1, 1) := by decide +kernel
theorem d_4_5_52 : decode prog_4_method_5_code 52 = .ok (.aload_n 0, 1) := by decide +kernel
theorem d_4_5_53 : decode prog_4_method_5_code 53 = .ok (.getfield 19, 3) := by decide +kernel
theorem d_4_5_56 : decode prog_4_method_5_code 56 = .ok (.aload_n 0, 1) := by decide +kernel
theorem d_4_5_57 : decode prog_4_method_5_code 57 = .ok (.invokevirtual 65, 3) := by decide +kernel
theorem d_4_5_60 : decode prog_4_method_5_code 60 = .ok (.iconst 2, 1) := by decide +kernel
theorem d_4_5_61 : decode prog_4_method_5_code 61 = .ok (.iload_n 1, 1) := by decide +kernel
theorem d_4_5_62 : decode prog_4_method_5_code 62 = .ok (.invokevirtual 39, 3) := by decide +kernel
theorem d_4_5_65 : decode prog_4_method_5_code 65 = .ok (.iconst 2, 1) := by decide +kernel
theorem d_4_5_66 : decode prog_4_method_5_code 66 = .ok (.istore_n 2, 1) := by decide +kernel
theorem d_4_5_67 : decode prog_4_method_5_code 67 = .ok (.iinc 3 1, 3) := by decide +kernel
theorem d_4_5_70 : decode prog_4_method_5_code 70 = .ok (.goto (-55), 3) := by decide +kernel
theorem d_4_5_73 : decode prog_4_method_5_code 73 = .ok (.iload_n 2, 1) := by decide +kernel
theorem d_4_5_74 : decode prog_4_method_5_code 74 = .ok (.ireturn, 1) := by decide +kernel
theorem d_4_6_0 : decode prog_4_method_6_code 0 = .ok (.aload_n 0, 1) := by decide +kernel
theorem d_4_6_1 : decode prog_4_method_6_code 1 = .ok (.getfield 9, 3) := by decide +kernel
theorem d_4_6_4 : decode prog_4_method_6_code 4 = .ok (.bipush 22, 2) := by decide +kernel
theorem d_4_6_6 : decode prog_4_method_6_code 6 = .ok (.invokevirtual 29, 3) := by decide +kernel
theorem d_4_6_9 : decode prog_4_method_6_code 9 = .ok (.ifCond .ne 8, 3) := by decide +kernel
theorem d_4_6_12 : decode prog_4_method_6_code 12 = .ok (.aload_n 0, 1) := by decide +kernel
theorem d_4_6_13 : decode prog_4_method_6_code 13 = .ok (.invokevirtual 68, 3) := by decide +kernel
theorem d_4_6_16 : decode prog_4_method_6_code 16 = .ok (.ireturn, 1) := by decide +kernel
theorem d_4_6_17 : decode prog_4_method_6_code 17 = .ok (.aload_n 0, 1) := by decide +kernel
theorem d_4_6_18 : decode prog_4_method_6_code 18 = .ok (.getfield 9, 3) := by decide +kernel
theorem d_4_6_21 : decode prog_4_method_6_code 21 = .ok (.bipush 22, 2) := by decide +kernel
theorem d_4_6_23 : decode prog_4_method_6_code 23 = .ok (.invokevirtual 45, 3) := by decide +kernel
theorem d_4_6_26 : decode prog_4_method_6_code 26 = .ok (.aload_n 0, 1) := by decide +kernel
theorem d_4_6_27 : decode prog_4_method_6_code 27 = .ok (.getfield 9, 3) := by decide +kernel
theorem d_4_6_30 : decode prog_4_method_6_code 30 = .ok (.invokevirtual 23, 3) := by decide +kernel
theorem d_4_6_33 : decode prog_4_method_6_code 33 = .ok (.istore_n 1, 1) := by decide +kernel
theorem d_4_6_34 : decode prog_4_method_6_code 34 = .ok (.aload_n 0, 1) := by decide +kernel
theorem d_4_6_35 : decode prog_4_method_6_code 35 = .ok (.getfield 19, 3) := by decide +kernel
theorem d_4_6_38 : decode prog_4_method_6_code 38 = .ok (.aload_n 0, 1) := by decide +kernel
theorem d_4_6_39 : decode prog_4_method_6_code 39 = .ok (.invokevirtual 65, 3) := by decide +kernel
theorem d_4_6_42 : decode prog_4_method_6_code 42 = .ok (.iconst 2, 1) := by decide +kernel
theorem d_4_6_43 : decode prog_4_method_6_code 43 = .ok (.iload_n 1, 1) := by decide +kernel
theorem d_4_6_44 : decode prog_4_method_6_code 44 = .ok (.invokevirtual 39, 3) := by decide +kernel
theorem d_4_6_47 : decode prog_4_method_6_code 47 = .ok (.aload_n 0, 1) := by decide +kernel
theorem d_4_6_48 : decode prog_4_method_6_code 48 = .ok (.getfield 9, 3) := by decide +kernel
theorem d_4_6_51 : decode prog_4_method_6_code 51 = .ok (.invokevirtual 56, 3) := by decide +kernel
theorem d_4_6_54 : decode prog_4_method_6_code 54 = .ok (.iconst 2, 1) := by decide +kernel
theorem d_4_6_55 : decode prog_4_method_6_code 55 = .ok (.ireturn, 1) := by decide +kernel
theorem d_4_7_0 : decode prog_4_method_7_code 0 = .ok (.aload_n 0, 1) := by decide +kernel
theorem d_4_7_1 : decode prog_4_method_7_code 1 = .ok (.getfield 9, 3) := by decide +kernel
theorem d_4_7_4 : decode prog_4_method_7_code 4 = .ok (.invokevirtual 23, 3) := by decide +kernel
theorem d_4_7_7 : decode prog_4_method_7_code 7 = .ok (.istore_n 1, 1) := by decide +kernel
theorem d_4_7_8 : decode prog_4_method_7_code 8 = .ok (.aload_n 0, 1) := by decide +kernel
theorem d_4_7_9 : decode prog_4_method_7_code 9 = .ok (.invokevirtual 71, 3) := by decide +kernel
theorem d_4_7_12 : decode prog_4_method_7_code 12 = .ok (.istore_n 2, 1) := by decide +kernel
theorem d_4_7_13 : decode prog_4_method_7_code 13 = .ok (.aload_n 0, 1) := by decide +kernel
theorem d_4_7_14 : decode prog_4_method_7_code 14 = .ok (.getfield 9, 3) := by decide +kernel
theorem d_4_7_17 : decode prog_4_method_7_code 17 = .ok (.invokevirtual 74, 3) := by decide +kernel
theorem d_4_7_20 : decode prog_4_method_7_code 20 = .ok (.bipush 41, 2) := by decide +kernel
theorem d_4_7_22 : decode prog_4_method_7_code 22 = .ok (.if_icmp .lt 15, 3) := by decide +kernel
theorem d_4_7_25 : decode prog_4_method_7_code 25 = .ok (.aload_n 0, 1) := by decide +kernel
theorem d_4_7_26 : decode prog_4_method_7_code 26 = .ok (.getfield 9, 3) := by decide +kernel
theorem d_4_7_29 : decode prog_4_method_7_code 29 = .ok (.invokevirtual 74, 3) := by decide +kernel
theorem d_4_7_32 : decode prog_4_method_7_code 32 = .ok (.bipush 46, 2) := by decide +kernel
theorem d_4_7_34 : decode prog_4_method_7_code 34 = .ok (.if_icmp .le 5, 3) := by decide +kernel
theorem d_4_7_37 : decode prog_4_method_7_code 37 = .ok (.iload_n 2, 1) := by decide +kernel
theorem d_4_7_38 : decode prog_4_method_7_code 38 = .ok (.ireturn, 1) := by decide +kernel
theorem d_4_7_39 : decode prog_4_method_7_code 39 = .ok (.aload_n 0, 1) := by decide +kernel
theorem d_4_7_40 : decode prog_4_method_7_code 40 = .ok (.getfield 19, 3) := by decide +kernel
theorem d_4_7_43 : decode prog_4_method_7_code 43 = .ok (.iload_n 2, 1) := by decide +kernel
theorem d_4_7_44 : decode prog_4_method_7_code 44 = .ok (.iconst 1, 1) := by decide +kernel
theorem d_4_7_45 : decode prog_4_method_7_code 45 = .ok (.iload_n 1, 1) := by decide +kernel
theorem d_4_7_46 : decode prog_4_method_7_code 46 = .ok (.invokevirtual 39, 3) := by decide +kernel
theorem d_4_7_49 : decode prog_4_method_7_code 49 = .ok (.aload_n 0, 1) := by decide +kernel
theorem d_4_7_50 : decode prog_4_method_7_code 50 = .ok (.getfield 9, 3) := by decide +kernel
theorem d_4_7_53 : decode prog_4_method_7_code 53 = .ok (.invokevirtual 77, 3) := by decide +kernel
theorem d_4_7_56 : decode prog_4_method_7_code 56 = .ok (.aload_n 0, 1) := by decide +kernel
theorem d_4_7_57 : decode prog_4_method_7_code 57 = .ok (.getfield 9, 3) := by decide +kernel
theorem d_4_7_60 : decode prog_4_method_7_code 60 = .ok (.invokevirtual 23, 3) := by decide +kernel
theorem d_4_7_63 : decode prog_4_method_7_code 63 = .ok (.istore_n 1, 1) := by decide +kernel
theorem d_4_7_64 : decode prog_4_method_7_code 64 = .ok (.aload_n 0, 1) := by decide +kernel
theorem d_4_7_65 : decode prog_4_method_7_code 65 = .ok (.getfield 19, 3) := by decide +kernel
theorem d_4_7_68 : decode prog_4_method_7_code 68 = .ok (.aload_n 0, 1) := by decide +kernel
theorem d_4_7_69 : decode prog_4_method_7_code 69 = .ok (.invokevirtual 71, 3) := by decide +kernel
theorem d_4_7_72 : decode prog_4_method_7_code 72 = .ok (.iconst 1, 1) := by decide +kernel
theorem d_4_7_73 : decode prog_4_method_7_code 73 = .ok (.iload_n 1, 1) := by decide +kernel
theorem d_4_7_74 : decode prog_4_method_7_code 74 = .ok (.invokevirtual 39, 3) := by decide +kernel
theorem d_4_7_77 : decode prog_4_method_7_code 77 = .ok (.iconst 2, 1) := by decide +kernel
theorem d_4_7_78 : decode prog_4_method_7_code 78 = .ok (.ireturn, 1) := by decide +kernel
theorem d_4_8_0 : decode prog_4_method_8_code 0 = .ok (.aload_n 0, 1) := by decide +kernel
theorem d_4_8_1 : decode prog_4_method_8_code 1 = .ok (.invokevirtual 80, 3) := by decide +kernel
theorem d_4_8_4 : decode prog_4_method_8_code 4 = .ok (.istore_n 1, 1) := by decide +kernel
theorem d_4_8_5 : decode prog_4_method_8_code 5 = .ok (.aload_n 0, 1) := by decide +kernel
theorem d_4_8_6 : decode prog_4_method_8_code 6 = .ok (.getfield 9, 3) := by decide +kernel
