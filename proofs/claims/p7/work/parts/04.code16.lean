theorem d_2_23_25 : decode prog_2_method_23_code 25 = .ok (.ifCond .eq 14, 3) := by decide +kernel
theorem d_2_23_28 : decode prog_2_method_23_code 28 = .ok (.aload_n 0, 1) := by decide +kernel
theorem d_2_23_29 : decode prog_2_method_23_code 29 = .ok (.getfield 28, 3) := by decide +kernel
theorem d_2_23_32 : decode prog_2_method_23_code 32 = .ok (.iload_n 2, 1) := by decide +kernel
theorem d_2_23_33 : decode prog_2_method_23_code 33 = .ok (.invokevirtual 223, 3) := by decide +kernel
theorem d_2_23_36 : decode prog_2_method_23_code 36 = .ok (.goto 4, 3) := by decide +kernel
theorem d_2_23_39 : decode prog_2_method_23_code 39 = .ok (.iconst 0, 1) := by decide +kernel
theorem d_2_23_40 : decode prog_2_method_23_code 40 = .ok (.istore_n 3, 1) := by decide +kernel
theorem d_2_23_41 : decode prog_2_method_23_code 41 = .ok (.aload_n 0, 1) := by decide +kernel
theorem d_2_23_42 : decode prog_2_method_23_code 42 = .ok (.getfield 19, 3) := by decide +kernel
theorem d_2_23_45 : decode prog_2_method_23_code 45 = .ok (.iload_n 2, 1) := by decide +kernel
theorem d_2_23_46 : decode prog_2_method_23_code 46 = .ok (.iload_n 3, 1) := by decide +kernel
theorem d_2_23_47 : decode prog_2_method_23_code 47 = .ok (.iload_n 1, 1) := by decide +kernel
theorem d_2_23_48 : decode prog_2_method_23_code 48 = .ok (.invokevirtual 226, 3) := by decide +kernel
theorem d_2_23_51 : decode prog_2_method_23_code 51 = .ok (.return_, 1) := by decide +kernel
theorem d_2_24_0 : decode prog_2_method_24_code 0 = .ok (.aload_n 0, 1) := by decide +kernel
theorem d_2_24_1 : decode prog_2_method_24_code 1 = .ok (.getfield 9, 3) := by decide +kernel
theorem d_2_24_4 : decode prog_2_method_24_code 4 = .ok (.bipush 19, 2) := by decide +kernel
theorem d_2_24_6 : decode prog_2_method_24_code 6 = .ok (.invokevirtual 67, 3) := by decide +kernel
theorem d_2_24_9 : decode prog_2_method_24_code 9 = .ok (.aload_n 0, 1) := by decide +kernel
theorem d_2_24_10 : decode prog_2_method_24_code 10 = .ok (.getfield 9, 3) := by decide +kernel
theorem d_2_24_13 : decode prog_2_method_24_code 13 = .ok (.invokevirtual 179, 3) := by decide +kernel
theorem d_2_24_16 : decode prog_2_method_24_code 16 = .ok (.bipush 36, 2) := by decide +kernel
theorem d_2_24_18 : decode prog_2_method_24_code 18 = .ok (.if_icmp .eq 8, 3) := by decide +kernel
theorem d_2_24_21 : decode prog_2_method_24_code 21 = .ok (.aload_n 0, 1) := by decide +kernel
theorem d_2_24_22 : decode prog_2_method_24_code 22 = .ok (.invokevirtual 129, 3) := by decide +kernel
theorem d_2_24_25 : decode prog_2_method_24_code 25 = .ok (.return_, 1) := by decide +kernel
theorem d_2_24_26 : decode prog_2_method_24_code 26 = .ok (.aload_n 0, 1) := by decide +kernel
theorem d_2_24_27 : decode prog_2_method_24_code 27 = .ok (.getfield 9, 3) := by decide +kernel
theorem d_2_24_30 : decode prog_2_method_24_code 30 = .ok (.invokevirtual 132, 3) := by decide +kernel
theorem d_2_24_33 : decode prog_2_method_24_code 33 = .ok (.istore_n 1, 1) := by decide +kernel
theorem d_2_24_34 : decode prog_2_method_24_code 34 = .ok (.aload_n 0, 1) := by decide +kernel
theorem d_2_24_35 : decode prog_2_method_24_code 35 = .ok (.getfield 19, 3) := by decide +kernel
theorem d_2_24_38 : decode prog_2_method_24_code 38 = .ok (.aload_n 0, 1) := by decide +kernel
theorem d_2_24_39 : decode prog_2_method_24_code 39 = .ok (.getfield 15, 3) := by decide +kernel
theorem d_2_24_42 : decode prog_2_method_24_code 42 = .ok (.invokevirtual 135, 3) := by decide +kernel
theorem d_2_24_45 : decode prog_2_method_24_code 45 = .ok (.iload_n 1, 1) := by decide +kernel
theorem d_2_24_46 : decode prog_2_method_24_code 46 = .ok (.invokevirtual 228, 3) := by decide +kernel
theorem d_2_24_49 : decode prog_2_method_24_code 49 = .ok (.aload_n 0, 1) := by decide +kernel
theorem d_2_24_50 : decode prog_2_method_24_code 50 = .ok (.getfield 9, 3) := by decide +kernel
theorem d_2_24_53 : decode prog_2_method_24_code 53 = .ok (.bipush 36, 2) := by decide +kernel
theorem d_2_24_55 : decode prog_2_method_24_code 55 = .ok (.invokevirtual 51, 3) := by decide +kernel
theorem d_2_24_58 : decode prog_2_method_24_code 58 = .ok (.aload_n 0, 1) := by decide +kernel
theorem d_2_24_59 : decode prog_2_method_24_code 59 = .ok (.getfield 28, 3) := by decide +kernel
theorem d_2_24_62 : decode prog_2_method_24_code 62 = .ok (.iconst 1, 1) := by decide +kernel
theorem d_2_24_63 : decode prog_2_method_24_code 63 = .ok (.invokevirtual 118, 3) := by decide +kernel
theorem d_2_24_66 : decode prog_2_method_24_code 66 = .ok (.pop, 1) := by decide +kernel
theorem d_2_24_67 : decode prog_2_method_24_code 67 = .ok (.aload_n 0, 1) := by decide +kernel
theorem d_2_24_68 : decode prog_2_method_24_code 68 = .ok (.getfield 9, 3) := by decide +kernel
theorem d_2_24_71 : decode prog_2_method_24_code 71 = .ok (.bipush 37, 2) := by decide +kernel
theorem d_2_24_73 : decode prog_2_method_24_code 73 = .ok (.invokevirtual 79, 3) := by decide +kernel
theorem d_2_24_76 : decode prog_2_method_24_code 76 = .ok (.return_, 1) := by decide +kernel
theorem d_2_25_0 : decode prog_2_method_25_code 0 = .ok (.aload_n 0, 1) := by decide +kernel
theorem d_2_25_1 : decode prog_2_method_25_code 1 = .ok (.getfield 9, 3) := by decide +kernel
theorem d_2_25_4 : decode prog_2_method_25_code 4 = .ok (.bipush 11, 2) := by decide +kernel
theorem d_2_25_6 : decode prog_2_method_25_code 6 = .ok (.invokevirtual 67, 3) := by decide +kernel
theorem d_2_25_9 : decode prog_2_method_25_code 9 = .ok (.aload_n 0, 1) := by decide +kernel
theorem d_2_25_10 : decode prog_2_method_25_code 10 = .ok (.getfield 28, 3) := by decide +kernel
theorem d_2_25_13 : decode prog_2_method_25_code 13 = .ok (.iconst 2, 1) := by decide +kernel
theorem d_2_25_14 : decode prog_2_method_25_code 14 = .ok (.invokevirtual 118, 3) := by decide +kernel
theorem d_2_25_17 : decode prog_2_method_25_code 17 = .ok (.pop, 1) := by decide +kernel
theorem d_2_25_18 : decode prog_2_method_25_code 18 = .ok (.aload_n 0, 1) := by decide +kernel
theorem d_2_25_19 : decode prog_2_method_25_code 19 = .ok (.getfield 9, 3) := by decide +kernel
theorem d_2_25_22 : decode prog_2_method_25_code 22 = .ok (.bipush 12, 2) := by decide +kernel
theorem d_2_25_24 : decode prog_2_method_25_code 24 = .ok (.invokevirtual 51, 3) := by decide +kernel
theorem d_2_25_27 : decode prog_2_method_25_code 27 = .ok (.aload_n 0, 1) := by decide +kernel
theorem d_2_25_28 : decode prog_2_method_25_code 28 = .ok (.getfield 9, 3) := by decide +kernel
theorem d_2_25_31 : decode prog_2_method_25_code 31 = .ok (.bipush 11, 2) := by decide +kernel
theorem d_2_25_33 : decode prog_2_method_25_code 33 = .ok (.invokevirtual 44, 3) := by decide +kernel
theorem d_2_25_36 : decode prog_2_method_25_code 36 = .ok (.ifCond .ne 15, 3) := by decide +kernel
theorem d_2_25_39 : decode prog_2_method_25_code 39 = .ok (.aload_n 0, 1) := by decide +kernel
theorem d_2_25_40 : decode prog_2_method_25_code 40 = .ok (.getfield 9, 3) := by decide +kernel
theorem d_2_25_43 : decode prog_2_method_25_code 43 = .ok (.bipush 14, 2) := by decide +kernel
theorem d_2_25_45 : decode prog_2_method_25_code 45 = .ok (.invokevirtual 44, 3) := by decide +kernel
theorem d_2_25_48 : decode prog_2_method_25_code 48 = .ok (.ifCond .eq 10, 3) := by decide +kernel
theorem d_2_25_51 : decode prog_2_method_25_code 51 = .ok (.aload_n 0, 1) := by decide +kernel
theorem d_2_25_52 : decode prog_2_method_25_code 52 = .ok (.getfield 9, 3) := by decide +kernel
theorem d_2_25_55 : decode prog_2_method_25_code 55 = .ok (.invokevirtual 48, 3) := by decide +kernel
theorem d_2_25_58 : decode prog_2_method_25_code 58 = .ok (.aload_n 0, 1) := by decide +kernel
theorem d_2_25_59 : decode prog_2_method_25_code 59 = .ok (.invokevirtual 161, 3) := by decide +kernel
theorem d_2_25_62 : decode prog_2_method_25_code 62 = .ok (.aload_n 0, 1) := by decide +kernel
theorem d_2_25_63 : decode prog_2_method_25_code 63 = .ok (.getfield 9, 3) := by decide +kernel
theorem d_2_25_66 : decode prog_2_method_25_code 66 = .ok (.invokevirtual 164, 3) := by decide +kernel
theorem d_2_25_69 : decode prog_2_method_25_code 69 = .ok (.aload_n 0, 1) := by decide +kernel
theorem d_2_25_70 : decode prog_2_method_25_code 70 = .ok (.getfield 9, 3) := by decide +kernel
theorem d_2_25_73 : decode prog_2_method_25_code 73 = .ok (.bipush 13, 2) := by decide +kernel
theorem d_2_25_75 : decode prog_2_method_25_code 75 = .ok (.invokevirtual 44, 3) := by decide +kernel
theorem d_2_25_78 : decode prog_2_method_25_code 78 = .ok (.ifCond .eq 23, 3) := by decide +kernel
theorem d_2_25_81 : decode prog_2_method_25_code 81 = .ok (.aload_n 0, 1) := by decide +kernel
theorem d_2_25_82 : decode prog_2_method_25_code 82 = .ok (.getfield 9, 3) := by decide +kernel
theorem d_2_25_85 : decode prog_2_method_25_code 85 = .ok (.bipush 13, 2) := by decide +kernel
theorem d_2_25_87 : decode prog_2_method_25_code 87 = .ok (.invokevirtual 51, 3) := by decide +kernel
theorem d_2_25_90 : decode prog_2_method_25_code 90 = .ok (.aload_n 0, 1) := by decide +kernel
theorem d_2_25_91 : decode prog_2_method_25_code 91 = .ok (.invokevirtual 161, 3) := by decide +kernel
theorem d_2_25_94 : decode prog_2_method_25_code 94 = .ok (.aload_n 0, 1) := by decide +kernel
theorem d_2_25_95 : decode prog_2_method_25_code 95 = .ok (.getfield 9, 3) := by decide +kernel
theorem d_2_25_98 : decode prog_2_method_25_code 98 = .ok (.invokevirtual 164, 3) := by decide +kernel
theorem d_2_25_101 : decode prog_2_method_25_code 101 = .ok (.return_, 1) := by decide +kernel
theorem d_2_26_0 : decode prog_2_method_26_code 0 = .ok (.aload_n 0, 1) := by decide +kernel
theorem d_2_26_1 : decode prog_2_method_26_code 1 = .ok (.getfield 9, 3) := by decide +kernel
theorem d_2_26_4 : decode prog_2_method_26_code 4 = .ok (.bipush 14, 2) := by decide +kernel
theorem d_2_26_6 : decode prog_2_method_26_code 6 = .ok (.invokevirtual 67, 3) := by decide +kernel
theorem d_2_26_9 : decode prog_2_method_26_code 9 = .ok (.aload_n 0, 1) := by decide +kernel
theorem d_2_26_10 : decode prog_2_method_26_code 10 = .ok (.getfield 9, 3) := by decide +kernel
theorem d_2_26_13 : decode prog_2_method_26_code 13 = .ok (.invokevirtual 132, 3) := by decide +kernel
theorem d_2_26_16 : decode prog_2_method_26_code 16 = .ok (.istore_n 1, 1) := by decide +kernel
theorem d_2_26_17 : decode prog_2_method_26_code 17 = .ok (.aload_n 0, 1) := by decide +kernel
theorem d_2_26_18 : decode prog_2_method_26_code 18 = .ok (.getfield 19, 3) := by decide +kernel
theorem d_2_26_21 : decode prog_2_method_26_code 21 = .ok (.aload_n 0, 1) := by decide +kernel
theorem d_2_26_22 : decode prog_2_method_26_code 22 = .ok (.getfield 15, 3) := by decide +kernel
theorem d_2_26_25 : decode prog_2_method_26_code 25 = .ok (.invokevirtual 135, 3) := by decide +kernel
theorem d_2_26_28 : decode prog_2_method_26_code 28 = .ok (.iload_n 1, 1) := by decide +kernel
theorem d_2_26_29 : decode prog_2_method_26_code 29 = .ok (.invokevirtual 231, 3) := by decide +kernel
theorem d_2_26_32 : decode prog_2_method_26_code 32 = .ok (.aload_n 0, 1) := by decide +kernel
theorem d_2_26_33 : decode prog_2_method_26_code 33 = .ok (.getfield 9, 3) := by decide +kernel
theorem d_2_26_36 : decode prog_2_method_26_code 36 = .ok (.bipush 47, 2) := by decide +kernel
theorem d_2_26_38 : decode prog_2_method_26_code 38 = .ok (.invokevirtual 67, 3) := by decide +kernel
theorem d_2_26_41 : decode prog_2_method_26_code 41 = .ok (.aload_n 0, 1) := by decide +kernel
theorem d_2_26_42 : decode prog_2_method_26_code 42 = .ok (.invokevirtual 234, 3) := by decide +kernel
theorem d_2_26_45 : decode prog_2_method_26_code 45 = .ok (.iconst 0, 1) := by decide +kernel
theorem d_2_26_46 : decode prog_2_method_26_code 46 = .ok (.istore_n 2, 1) := by decide +kernel
theorem d_2_26_47 : decode prog_2_method_26_code 47 = .ok (.iload_n 2, 1) := by decide +kernel
theorem d_2_26_48 : decode prog_2_method_26_code 48 = .ok (.sipush 3001, 3) := by decide +kernel
theorem d_2_26_51 : decode prog_2_method_26_code 51 = .ok (.if_icmp .ge 25, 3) := by decide +kernel
theorem d_2_26_54 : decode prog_2_method_26_code 54 = .ok (.aload_n 0, 1) := by decide +kernel
theorem d_2_26_55 : decode prog_2_method_26_code 55 = .ok (.getfield 9, 3) := by decide +kernel
theorem d_2_26_58 : decode prog_2_method_26_code 58 = .ok (.bipush 38, 2) := by decide +kernel
theorem d_2_26_60 : decode prog_2_method_26_code 60 = .ok (.invokevirtual 73, 3) := by decide +kernel
theorem d_2_26_63 : decode prog_2_method_26_code 63 = .ok (.ifCond .eq 13, 3) := by decide +kernel
theorem d_2_26_66 : decode prog_2_method_26_code 66 = .ok (.aload_n 0, 1) := by decide +kernel
theorem d_2_26_67 : decode prog_2_method_26_code 67 = .ok (.invokevirtual 234, 3) := by decide +kernel
theorem d_2_26_70 : decode prog_2_method_26_code 70 = .ok (.iinc 2 1, 3) := by decide +kernel
theorem d_2_26_73 : decode prog_2_method_26_code 73 = .ok (.goto (-26), 3) := by decide +kernel
theorem d_2_26_76 : decode prog_2_method_26_code 76 = .ok (.aload_n 0, 1) := by decide +kernel
theorem d_2_26_77 : decode prog_2_method_26_code 77 = .ok (.getfield 9, 3) := by decide +kernel
theorem d_2_26_80 : decode prog_2_method_26_code 80 = .ok (.bipush 15, 2) := by decide +kernel
theorem d_2_26_82 : decode prog_2_method_26_code 82 = .ok (.invokevirtual 51, 3) := by decide +kernel
theorem d_2_26_85 : decode prog_2_method_26_code 85 = .ok (.aload_n 0, 1) := by decide +kernel
theorem d_2_26_86 : decode prog_2_method_26_code 86 = .ok (.invokevirtual 161, 3) := by decide +kernel
theorem d_2_26_89 : decode prog_2_method_26_code 89 = .ok (.aload_n 0, 1) := by decide +kernel
theorem d_2_26_90 : decode prog_2_method_26_code 90 = .ok (.getfield 9, 3) := by decide +kernel
theorem d_2_26_93 : decode prog_2_method_26_code 93 = .ok (.invokevirtual 164, 3) := by decide +kernel
theorem d_2_26_96 : decode prog_2_method_26_code 96 = .ok (.return_, 1) := by decide +kernel
theorem d_2_27_0 : decode prog_2_method_27_code 0 = .ok (.aload_n 0, 1) := by decide +kernel
theorem d_2_27_1 : decode prog_2_method_27_code 1 = .ok (.getfield 28, 3) := by decide +kernel
theorem d_2_27_4 : decode prog_2_method_27_code 4 = .ok (.iconst 1, 1) := by decide +kernel
theorem d_2_27_5 : decode prog_2_method_27_code 5 = .ok (.invokevirtual 118, 3) := by decide +kernel
theorem d_2_27_8 : decode prog_2_method_27_code 8 = .ok (.pop, 1) := by decide +kernel
theorem d_2_27_9 : decode prog_2_method_27_code 9 = .ok (.aload_n 0, 1) := by decide +kernel
theorem d_2_27_10 : decode prog_2_method_27_code 10 = .ok (.getfield 9, 3) := by decide +kernel
theorem d_2_27_13 : decode prog_2_method_27_code 13 = .ok (.bipush 16, 2) := by decide +kernel
theorem d_2_27_15 : decode prog_2_method_27_code 15 = .ok (.invokevirtual 73, 3) := by decide +kernel
theorem d_2_27_18 : decode prog_2_method_27_code 18 = .ok (.ifCond .eq 33, 3) := by decide +kernel
theorem d_2_27_21 : decode prog_2_method_27_code 21 = .ok (.aload_n 0, 1) := by decide +kernel
theorem d_2_27_22 : decode prog_2_method_27_code 22 = .ok (.getfield 28, 3) := by decide +kernel
theorem d_2_27_25 : decode prog_2_method_27_code 25 = .ok (.iconst 1, 1) := by decide +kernel
theorem d_2_27_26 : decode prog_2_method_27_code 26 = .ok (.invokevirtual 118, 3) := by decide +kernel
theorem d_2_27_29 : decode prog_2_method_27_code 29 = .ok (.pop, 1) := by decide +kernel
theorem d_2_27_30 : decode prog_2_method_27_code 30 = .ok (.aload_n 0, 1) := by decide +kernel
theorem d_2_27_31 : decode prog_2_method_27_code 31 = .ok (.getfield 9, 3) := by decide +kernel
theorem d_2_27_34 : decode prog_2_method_27_code 34 = .ok (.bipush 17, 2) := by decide +kernel
theorem d_2_27_36 : decode prog_2_method_27_code 36 = .ok (.invokevirtual 67, 3) := by decide +kernel
theorem d_2_27_39 : decode prog_2_method_27_code 39 = .ok (.aload_n 0, 1) := by decide +kernel
theorem d_2_27_40 : decode prog_2_method_27_code 40 = .ok (.getfield 28, 3) := by decide +kernel
theorem d_2_27_43 : decode prog_2_method_27_code 43 = .ok (.iconst 1, 1) := by decide +kernel
theorem d_2_27_44 : decode prog_2_method_27_code 44 = .ok (.invokevirtual 118, 3) := by decide +kernel
theorem d_2_27_47 : decode prog_2_method_27_code 47 = .ok (.pop, 1) := by decide +kernel
theorem d_2_27_48 : decode prog_2_method_27_code 48 = .ok (.goto 24, 3) := by decide +kernel
theorem d_2_27_51 : decode prog_2_method_27_code 51 = .ok (.aload_n 0, 1) := by decide +kernel
theorem d_2_27_52 : decode prog_2_method_27_code 52 = .ok (.getfield 9, 3) := by decide +kernel
theorem d_2_27_55 : decode prog_2_method_27_code 55 = .ok (.bipush 18, 2) := by decide +kernel
theorem d_2_27_57 : decode prog_2_method_27_code 57 = .ok (.invokevirtual 73, 3) := by decide +kernel
theorem d_2_27_60 : decode prog_2_method_27_code 60 = .ok (.ifCond .eq 12, 3) := by decide +kernel
theorem d_2_27_63 : decode prog_2_method_27_code 63 = .ok (.aload_n 0, 1) := by decide +kernel
theorem d_2_27_64 : decode prog_2_method_27_code 64 = .ok (.getfield 28, 3) := by decide +kernel
theorem d_2_27_67 : decode prog_2_method_27_code 67 = .ok (.iconst 2, 1) := by decide +kernel
theorem d_2_27_68 : decode prog_2_method_27_code 68 = .ok (.invokevirtual 118, 3) := by decide +kernel
theorem d_2_27_71 : decode prog_2_method_27_code 71 = .ok (.pop, 1) := by decide +kernel
theorem d_2_27_72 : decode prog_2_method_27_code 72 = .ok (.return_, 1) := by decide +kernel
theorem d_2_2_0 : decode prog_2_method_2_code 0 = .ok (.aload_n 0, 1) := by decide +kernel
theorem d_2_2_1 : decode prog_2_method_2_code 1 = .ok (.getfield 9, 3) := by decide +kernel
theorem d_2_2_4 : decode prog_2_method_2_code 4 = .ok (.invokevirtual 36, 3) := by decide +kernel
theorem d_2_2_7 : decode prog_2_method_2_code 7 = .ok (.aload_n 0, 1) := by decide +kernel
theorem d_2_2_8 : decode prog_2_method_2_code 8 = .ok (.iconst 0, 1) := by decide +kernel
theorem d_2_2_9 : decode prog_2_method_2_code 9 = .ok (.putfield 32, 3) := by decide +kernel
theorem d_2_2_12 : decode prog_2_method_2_code 12 = .ok (.aload_n 0, 1) := by decide +kernel
theorem d_2_2_13 : decode prog_2_method_2_code 13 = .ok (.invokevirtual 41, 3) := by decide +kernel
theorem d_2_2_16 : decode prog_2_method_2_code 16 = .ok (.aload_n 0, 1) := by decide +kernel
theorem d_2_2_17 : decode prog_2_method_2_code 17 = .ok (.getfield 9, 3) := by decide +kernel
theorem d_2_2_20 : decode prog_2_method_2_code 20 = .ok (.iconst 0, 1) := by decide +kernel
theorem d_2_2_21 : decode prog_2_method_2_code 21 = .ok (.invokevirtual 44, 3) := by decide +kernel
theorem d_2_2_24 : decode prog_2_method_2_code 24 = .ok (.ifCond .ne 10, 3) := by decide +kernel
theorem d_2_2_27 : decode prog_2_method_2_code 27 = .ok (.aload_n 0, 1) := by decide +kernel
theorem d_2_2_28 : decode prog_2_method_2_code 28 = .ok (.getfield 9, 3) := by decide +kernel
theorem d_2_2_31 : decode prog_2_method_2_code 31 = .ok (.invokevirtual 48, 3) := by decide +kernel
theorem d_2_2_34 : decode prog_2_method_2_code 34 = .ok (.return_, 1) := by decide +kernel
theorem d_2_3_0 : decode prog_2_method_3_code 0 = .ok (.aload_n 0, 1) := by decide +kernel
theorem d_2_3_1 : decode prog_2_method_3_code 1 = .ok (.getfield 9, 3) := by decide +kernel
theorem d_2_3_4 : decode prog_2_method_3_code 4 = .ok (.iconst 1, 1) := by decide +kernel
theorem d_2_3_5 : decode prog_2_method_3_code 5 = .ok (.invokevirtual 51, 3) := by decide +kernel
theorem d_2_3_8 : decode prog_2_method_3_code 8 = .ok (.aload_n 0, 1) := by decide +kernel
theorem d_2_3_9 : decode prog_2_method_3_code 9 = .ok (.getfield 15, 3) := by decide +kernel
theorem d_2_3_12 : decode prog_2_method_3_code 12 = .ok (.invokevirtual 55, 3) := by decide +kernel
theorem d_2_3_15 : decode prog_2_method_3_code 15 = .ok (.iconst 0, 1) := by decide +kernel
theorem d_2_3_16 : decode prog_2_method_3_code 16 = .ok (.istore_n 1, 1) := by decide +kernel
theorem d_2_3_17 : decode prog_2_method_3_code 17 = .ok (.iload_n 1, 1) := by decide +kernel
theorem d_2_3_18 : decode prog_2_method_3_code 18 = .ok (.sipush 3001, 3) := by decide +kernel
theorem d_2_3_21 : decode prog_2_method_3_code 21 = .ok (.if_icmp .ge 29, 3) := by decide +kernel
theorem d_2_3_24 : decode prog_2_method_3_code 24 = .ok (.aload_n 0, 1) := by decide +kernel
theorem d_2_3_25 : decode prog_2_method_3_code 25 = .ok (.invokevirtual 60, 3) := by decide +kernel
theorem d_2_3_28 : decode prog_2_method_3_code 28 = .ok (.ifCond .eq 22, 3) := by decide +kernel
theorem d_2_3_31 : decode prog_2_method_3_code 31 = .ok (.aload_n 0, 1) := by decide +kernel
theorem d_2_3_32 : decode prog_2_method_3_code 32 = .ok (.invokevirtual 64, 3) := by decide +kernel
theorem d_2_3_35 : decode prog_2_method_3_code 35 = .ok (.aload_n 0, 1) := by decide +kernel
theorem d_2_3_36 : decode prog_2_method_3_code 36 = .ok (.getfield 9, 3) := by decide +kernel
theorem d_2_3_39 : decode prog_2_method_3_code 39 = .ok (.bipush 39, 2) := by decide +kernel
theorem d_2_3_41 : decode prog_2_method_3_code 41 = .ok (.invokevirtual 67, 3) := by decide +kernel
theorem d_2_3_44 : decode prog_2_method_3_code 44 = .ok (.iinc 1 1, 3) := by decide +kernel
theorem d_2_3_47 : decode prog_2_method_3_code 47 = .ok (.goto (-30), 3) := by decide +kernel
theorem d_2_3_50 : decode prog_2_method_3_code 50 = .ok (.aload_n 0, 1) := by decide +kernel
theorem d_2_3_51 : decode prog_2_method_3_code 51 = .ok (.invokevirtual 70, 3) := by decide +kernel
theorem d_2_3_54 : decode prog_2_method_3_code 54 = .ok (.iconst 0, 1) := by decide +kernel
theorem d_2_3_55 : decode prog_2_method_3_code 55 = .ok (.istore_n 1, 1) := by decide +kernel
theorem d_2_3_56 : decode prog_2_method_3_code 56 = .ok (.iload_n 1, 1) := by decide +kernel
theorem d_2_3_57 : decode prog_2_method_3_code 57 = .ok (.sipush 3001, 3) := by decide +kernel
theorem d_2_3_60 : decode prog_2_method_3_code 60 = .ok (.if_icmp .ge 25, 3) := by decide +kernel
theorem d_2_3_63 : decode prog_2_method_3_code 63 = .ok (.aload_n 0, 1) := by decide +kernel
theorem d_2_3_64 : decode prog_2_method_3_code 64 = .ok (.getfield 9, 3) := by decide +kernel
theorem d_2_3_67 : decode prog_2_method_3_code 67 = .ok (.bipush 39, 2) := by decide +kernel
theorem d_2_3_69 : decode prog_2_method_3_code 69 = .ok (.invokevirtual 73, 3) := by decide +kernel
theorem d_2_3_72 : decode prog_2_method_3_code 72 = .ok (.ifCond .eq 13, 3) := by decide +kernel
theorem d_2_3_75 : decode prog_2_method_3_code 75 = .ok (.aload_n 0, 1) := by decide +kernel
theorem d_2_3_76 : decode prog_2_method_3_code 76 = .ok (.invokevirtual 70, 3) := by decide +kernel
theorem d_2_3_79 : decode prog_2_method_3_code 79 = .ok (.iinc 1 1, 3) := by decide +kernel
theorem d_2_3_82 : decode prog_2_method_3_code 82 = .ok (.goto (-26), 3) := by decide +kernel
theorem d_2_3_85 : decode prog_2_method_3_code 85 = .ok (.aload_n 0, 1) := by decide +kernel
theorem d_2_3_86 : decode prog_2_method_3_code 86 = .ok (.getfield 15, 3) := by decide +kernel
theorem d_2_3_89 : decode prog_2_method_3_code 89 = .ok (.invokevirtual 76, 3) := by decide +kernel
theorem d_2_3_92 : decode prog_2_method_3_code 92 = .ok (.aload_n 0, 1) := by decide +kernel
theorem d_2_3_93 : decode prog_2_method_3_code 93 = .ok (.getfield 9, 3) := by decide +kernel
theorem d_2_3_96 : decode prog_2_method_3_code 96 = .ok (.iconst 2, 1) := by decide +kernel
theorem d_2_3_97 : decode prog_2_method_3_code 97 = .ok (.invokevirtual 79, 3) := by decide +kernel
theorem d_2_3_100 : decode prog_2_method_3_code 100 = .ok (.return_, 1) := by decide +kernel
theorem d_2_4_0 : decode prog_2_method_4_code 0 = .ok (.aload_n 0, 1) := by decide +kernel
theorem d_2_4_1 : decode prog_2_method_4_code 1 = .ok (.invokevirtual 82, 3) := by decide +kernel
theorem d_2_4_4 : decode prog_2_method_4_code 4 = .ok (.ifCond .ne 39, 3) := by decide +kernel
theorem d_2_4_7 : decode prog_2_method_4_code 7 = .ok (.aload_n 0, 1) := by decide +kernel
theorem d_2_4_8 : decode prog_2_method_4_code 8 = .ok (.getfield 9, 3) := by decide +kernel
theorem d_2_4_11 : decode prog_2_method_4_code 11 = .ok (.bipush 8, 2) := by decide +kernel
theorem d_2_4_13 : decode prog_2_method_4_code 13 = .ok (.invokevirtual 44, 3) := by decide +kernel
theorem d_2_4_16 : decode prog_2_method_4_code 16 = .ok (.ifCond .ne 27, 3) := by decide +kernel
theorem d_2_4_19 : decode prog_2_method_4_code 19 = .ok (.aload_n 0, 1) := by decide +kernel
theorem d_2_4_20 : decode prog_2_method_4_code 20 = .ok (.getfield 9, 3) := by decide +kernel
theorem d_2_4_23 : decode prog_2_method_4_code 23 = .ok (.bipush 6, 2) := by decide +kernel
theorem d_2_4_25 : decode prog_2_method_4_code 25 = .ok (.invokevirtual 44, 3) := by decide +kernel
theorem d_2_4_28 : decode prog_2_method_4_code 28 = .ok (.ifCond .ne 15, 3) := by decide +kernel
theorem d_2_4_31 : decode prog_2_method_4_code 31 = .ok (.aload_n 0, 1) := by decide +kernel
theorem d_2_4_32 : decode prog_2_method_4_code 32 = .ok (.getfield 9, 3) := by decide +kernel
theorem d_2_4_35 : decode prog_2_method_4_code 35 = .ok (.bipush 9, 2) := by decide +kernel
theorem d_2_4_37 : decode prog_2_method_4_code 37 = .ok (.invokevirtual 44, 3) := by decide +kernel
theorem d_2_4_40 : decode prog_2_method_4_code 40 = .ok (.ifCond .eq 7, 3) := by decide +kernel
theorem d_2_4_43 : decode prog_2_method_4_code 43 = .ok (.iconst 1, 1) := by decide +kernel
theorem d_2_4_44 : decode prog_2_method_4_code 44 = .ok (.goto 4, 3) := by decide +kernel
theorem d_2_4_47 : decode prog_2_method_4_code 47 = .ok (.iconst 0, 1) := by decide +kernel
theorem d_2_4_48 : decode prog_2_method_4_code 48 = .ok (.ireturn, 1) := by decide +kernel
theorem d_2_5_0 : decode prog_2_method_5_code 0 = .ok (.aload_n 0, 1) := by decide +kernel
theorem d_2_5_1 : decode prog_2_method_5_code 1 = .ok (.getfield 9, 3) := by decide +kernel
theorem d_2_5_4 : decode prog_2_method_5_code 4 = .ok (.iconst 3, 1) := by decide +kernel
theorem d_2_5_5 : decode prog_2_method_5_code 5 = .ok (.invokevirtual 44, 3) := by decide +kernel
theorem d_2_5_8 : decode prog_2_method_5_code 8 = .ok (.ifCond .ne 14, 3) := by decide +kernel
theorem d_2_5_11 : decode prog_2_method_5_code 11 = .ok (.aload_n 0, 1) := by decide +kernel
theorem d_2_5_12 : decode prog_2_method_5_code 12 = .ok (.getfield 9, 3) := by decide +kernel
theorem d_2_5_15 : decode prog_2_method_5_code 15 = .ok (.iconst 4, 1) := by decide +kernel
theorem d_2_5_16 : decode prog_2_method_5_code 16 = .ok (.invokevirtual 44, 3) := by decide +kernel
theorem d_2_5_19 : decode prog_2_method_5_code 19 = .ok (.ifCond .eq 7, 3) := by decide +kernel
theorem d_2_5_22 : decode prog_2_method_5_code 22 = .ok (.iconst 1, 1) := by decide +kernel
theorem d_2_5_23 : decode prog_2_method_5_code 23 = .ok (.goto 4, 3) := by decide +kernel
theorem d_2_5_26 : decode prog_2_method_5_code 26 = .ok (.iconst 0, 1) := by decide +kernel
theorem d_2_5_27 : decode prog_2_method_5_code 27 = .ok (.ireturn, 1) := by decide +kernel
theorem d_2_6_0 : decode prog_2_method_6_code 0 = .ok (.aload_n 0, 1) := by decide +kernel
theorem d_2_6_1 : decode prog_2_method_6_code 1 = .ok (.getfield 9, 3) := by decide +kernel
theorem d_2_6_4 : decode prog_2_method_6_code 4 = .ok (.bipush 9, 2) := by decide +kernel
theorem d_2_6_6 : decode prog_2_method_6_code 6 = .ok (.invokevirtual 44, 3) := by decide +kernel
theorem d_2_6_9 : decode prog_2_method_6_code 9 = .ok (.ifCond .eq 10, 3) := by decide +kernel
theorem d_2_6_12 : decode prog_2_method_6_code 12 = .ok (.aload_n 0, 1) := by decide +kernel
theorem d_2_6_13 : decode prog_2_method_6_code 13 = .ok (.invokevirtual 85, 3) := by decide +kernel
theorem d_2_6_16 : decode prog_2_method_6_code 16 = .ok (.goto 46, 3) := by decide +kernel
theorem d_2_6_19 : decode prog_2_method_6_code 19 = .ok (.aload_n 0, 1) := by decide +kernel
theorem d_2_6_20 : decode prog_2_method_6_code 20 = .ok (.getfield 9, 3) := by decide +kernel
theorem d_2_6_23 : decode prog_2_method_6_code 23 = .ok (.bipush 8, 2) := by decide +kernel
theorem d_2_6_25 : decode prog_2_method_6_code 25 = .ok (.invokevirtual 73, 3) := by decide +kernel
theorem d_2_6_28 : decode prog_2_method_6_code 28 = .ok (.ifCond .eq 15, 3) := by decide +kernel
theorem d_2_6_31 : decode prog_2_method_6_code 31 = .ok (.aload_n 0, 1) := by decide +kernel
theorem d_2_6_32 : decode prog_2_method_6_code 32 = .ok (.aload_n 0, 1) := by decide +kernel
theorem d_2_6_33 : decode prog_2_method_6_code 33 = .ok (.invokevirtual 88, 3) := by decide +kernel
theorem d_2_6_36 : decode prog_2_method_6_code 36 = .ok (.iconst 1, 1) := by decide +kernel
theorem d_2_6_37 : decode prog_2_method_6_code 37 = .ok (.invokevirtual 92, 3) := by decide +kernel
theorem d_2_6_40 : decode prog_2_method_6_code 40 = .ok (.goto 22, 3) := by decide +kernel
theorem d_2_6_43 : decode prog_2_method_6_code 43 = .ok (.aload_n 0, 1) := by decide +kernel
theorem d_2_6_44 : decode prog_2_method_6_code 44 = .ok (.aload_n 0, 1) := by decide +kernel
theorem d_2_6_45 : decode prog_2_method_6_code 45 = .ok (.invokevirtual 82, 3) := by decide +kernel
theorem d_2_6_48 : decode prog_2_method_6_code 48 = .ok (.ifCond .eq 10, 3) := by decide +kernel
theorem d_2_6_51 : decode prog_2_method_6_code 51 = .ok (.aload_n 0, 1) := by decide +kernel
theorem d_2_6_52 : decode prog_2_method_6_code 52 = .ok (.invokevirtual 88, 3) := by decide +kernel
theorem d_2_6_55 : decode prog_2_method_6_code 55 = .ok (.goto 4, 3) := by decide +kernel
theorem d_2_6_58 : decode prog_2_method_6_code 58 = .ok (.iconst 0, 1) := by decide +kernel
theorem d_2_6_59 : decode prog_2_method_6_code 59 = .ok (.invokevirtual 96, 3) := by decide +kernel
theorem d_2_6_62 : decode prog_2_method_6_code 62 = .ok (.return_, 1) := by decide +kernel
theorem d_2_7_0 : decode prog_2_method_7_code 0 = .ok (.aload_n 0, 1) := by decide +kernel
theorem d_2_7_1 : decode prog_2_method_7_code 1 = .ok (.getfield 9, 3) := by decide +kernel
theorem d_2_7_4 : decode prog_2_method_7_code 4 = .ok (.bipush 6, 2) := by decide +kernel
theorem d_2_7_6 : decode prog_2_method_7_code 6 = .ok (.invokevirtual 44, 3) := by decide +kernel
theorem d_2_7_9 : decode prog_2_method_7_code 9 = .ok (.ifCond .eq 11, 3) := by decide +kernel
theorem d_2_7_12 : decode prog_2_method_7_code 12 = .ok (.aload_n 0, 1) := by decide +kernel
theorem d_2_7_13 : decode prog_2_method_7_code 13 = .ok (.iload_n 1, 1) := by decide +kernel
theorem d_2_7_14 : decode prog_2_method_7_code 14 = .ok (.invokevirtual 99, 3) := by decide +kernel
theorem d_2_7_17 : decode prog_2_method_7_code 17 = .ok (.goto 60, 3) := by decide +kernel
theorem d_2_7_20 : decode prog_2_method_7_code 20 = .ok (.aload_n 0, 1) := by decide +kernel
theorem d_2_7_21 : decode prog_2_method_7_code 21 = .ok (.getfield 9, 3) := by decide +kernel
theorem d_2_7_24 : decode prog_2_method_7_code 24 = .ok (.iconst 5, 1) := by decide +kernel
theorem d_2_7_25 : decode prog_2_method_7_code 25 = .ok (.invokevirtual 73, 3) := by decide +kernel
theorem d_2_7_28 : decode prog_2_method_7_code 28 = .ok (.ifCond .eq 43, 3) := by decide +kernel
theorem d_2_7_31 : decode prog_2_method_7_code 31 = .ok (.aload_n 0, 1) := by decide +kernel
theorem d_2_7_32 : decode prog_2_method_7_code 32 = .ok (.iload_n 1, 1) := by decide +kernel
theorem d_2_7_33 : decode prog_2_method_7_code 33 = .ok (.invokevirtual 102, 3) := by decide +kernel
theorem d_2_7_36 : decode prog_2_method_7_code 36 = .ok (.iconst 0, 1) := by decide +kernel
theorem d_2_7_37 : decode prog_2_method_7_code 37 = .ok (.istore_n 2, 1) := by decide +kernel
theorem d_2_7_38 : decode prog_2_method_7_code 38 = .ok (.iload_n 2, 1) := by decide +kernel
theorem d_2_7_39 : decode prog_2_method_7_code 39 = .ok (.sipush 3001, 3) := by decide +kernel
theorem d_2_7_42 : decode prog_2_method_7_code 42 = .ok (.if_icmp .ge 26, 3) := by decide +kernel
theorem d_2_7_45 : decode prog_2_method_7_code 45 = .ok (.aload_n 0, 1) := by decide +kernel
theorem d_2_7_46 : decode prog_2_method_7_code 46 = .ok (.getfield 9, 3) := by decide +kernel
theorem d_2_7_49 : decode prog_2_method_7_code 49 = .ok (.bipush 38, 2) := by decide +kernel
theorem d_2_7_51 : decode prog_2_method_7_code 51 = .ok (.invokevirtual 73, 3) := by decide +kernel
theorem d_2_7_54 : decode prog_2_method_7_code 54 = .ok (.ifCond .eq 14, 3) := by decide +kernel
theorem d_2_7_57 : decode prog_2_method_7_code 57 = .ok (.aload_n 0, 1) := by decide +kernel
theorem d_2_7_58 : decode prog_2_method_7_code 58 = .ok (.iload_n 1, 1) := by decide +kernel
theorem d_2_7_59 : decode prog_2_method_7_code 59 = .ok (.invokevirtual 102, 3) := by decide +kernel
theorem d_2_7_62 : decode prog_2_method_7_code 62 = .ok (.iinc 2 1, 3) := by decide +kernel
theorem d_2_7_65 : decode prog_2_method_7_code 65 = .ok (.goto (-27), 3) := by decide +kernel
theorem d_2_7_68 : decode prog_2_method_7_code 68 = .ok (.goto 9, 3) := by decide +kernel
theorem d_2_7_71 : decode prog_2_method_7_code 71 = .ok (.aload_n 0, 1) := by decide +kernel
theorem d_2_7_72 : decode prog_2_method_7_code 72 = .ok (.iload_n 1, 1) := by decide +kernel
theorem d_2_7_73 : decode prog_2_method_7_code 73 = .ok (.iconst 0, 1) := by decide +kernel
theorem d_2_7_74 : decode prog_2_method_7_code 74 = .ok (.invokevirtual 92, 3) := by decide +kernel
theorem d_2_7_77 : decode prog_2_method_7_code 77 = .ok (.return_, 1) := by decide +kernel
theorem d_2_8_0 : decode prog_2_method_8_code 0 = .ok (.aload_n 0, 1) := by decide +kernel
theorem d_2_8_1 : decode prog_2_method_8_code 1 = .ok (.getfield 9, 3) := by decide +kernel
theorem d_2_8_4 : decode prog_2_method_8_code 4 = .ok (.iconst 4, 1) := by decide +kernel
theorem d_2_8_5 : decode prog_2_method_8_code 5 = .ok (.invokevirtual 73, 3) := by decide +kernel
theorem d_2_8_8 : decode prog_2_method_8_code 8 = .ok (.ifCond .eq 5, 3) := by decide +kernel
theorem d_2_8_11 : decode prog_2_method_8_code 11 = .ok (.iconst 2, 1) := by decide +kernel
theorem d_2_8_12 : decode prog_2_method_8_code 12 = .ok (.ireturn, 1) := by decide +kernel
theorem d_2_8_13 : decode prog_2_method_8_code 13 = .ok (.aload_n 0, 1) := by decide +kernel
theorem d_2_8_14 : decode prog_2_method_8_code 14 = .ok (.getfield 9, 3) := by decide +kernel
theorem d_2_8_17 : decode prog_2_method_8_code 17 = .ok (.iconst 3, 1) := by decide +kernel
theorem d_2_8_18 : decode prog_2_method_8_code 18 = .ok (.invokevirtual 67, 3) := by decide +kernel
theorem d_2_8_21 : decode prog_2_method_8_code 21 = .ok (.iconst 1, 1) := by decide +kernel
theorem d_2_8_22 : decode prog_2_method_8_code 22 = .ok (.ireturn, 1) := by decide +kernel
theorem d_2_9_0 : decode prog_2_method_9_code 0 = .ok (.iconst 0, 1) := by decide +kernel
theorem d_2_9_1 : decode prog_2_method_9_code 1 = .ok (.istore_n 3, 1) := by decide +kernel
theorem d_2_9_2 : decode prog_2_method_9_code 2 = .ok (.iload_n 3, 1) := by decide +kernel
theorem d_2_9_3 : decode prog_2_method_9_code 3 = .ok (.sipush 3001, 3) := by decide +kernel
theorem d_2_9_6 : decode prog_2_method_9_code 6 = .ok (.if_icmp .ge 46, 3) := by decide +kernel
theorem d_2_9_9 : decode prog_2_method_9_code 9 = .ok (.iload_n 3, 1) := by decide +kernel
theorem d_2_9_10 : decode prog_2_method_9_code 10 = .ok (.ifCond .eq 15, 3) := by decide +kernel
theorem d_2_9_13 : decode prog_2_method_9_code 13 = .ok (.aload_n 0, 1) := by decide +kernel
theorem d_2_9_14 : decode prog_2_method_9_code 14 = .ok (.getfield 9, 3) := by decide +kernel
theorem d_2_9_17 : decode prog_2_method_9_code 17 = .ok (.bipush 38, 2) := by decide +kernel
theorem d_2_9_19 : decode prog_2_method_9_code 19 = .ok (.invokevirtual 73, 3) := by decide +kernel
theorem d_2_9_22 : decode prog_2_method_9_code 22 = .ok (.ifCond .eq 30, 3) := by decide +kernel
theorem d_2_9_25 : decode prog_2_method_9_code 25 = .ok (.aload_n 0, 1) := by decide +kernel
theorem d_2_9_26 : decode prog_2_method_9_code 26 = .ok (.iconst 1, 1) := by decide +kernel
theorem d_2_9_27 : decode prog_2_method_9_code 27 = .ok (.iload_n 1, 1) := by decide +kernel
theorem d_2_9_28 : decode prog_2_method_9_code 28 = .ok (.invokevirtual 105, 3) := by decide +kernel
theorem d_2_9_31 : decode prog_2_method_9_code 31 = .ok (.istore 4, 2) := by decide +kernel
theorem d_2_9_33 : decode prog_2_method_9_code 33 = .ok (.iload_n 2, 1) := by decide +kernel
theorem d_2_9_34 : decode prog_2_method_9_code 34 = .ok (.ifCond .eq 12, 3) := by decide +kernel
theorem d_2_9_37 : decode prog_2_method_9_code 37 = .ok (.aload_n 0, 1) := by decide +kernel
theorem d_2_9_38 : decode prog_2_method_9_code 38 = .ok (.getfield 15, 3) := by decide +kernel
theorem d_2_9_41 : decode prog_2_method_9_code 41 = .ok (.iload 4, 2) := by decide +kernel
theorem d_2_9_43 : decode prog_2_method_9_code 43 = .ok (.invokevirtual 109, 3) := by decide +kernel
theorem d_2_9_46 : decode prog_2_method_9_code 46 = .ok (.iinc 3 1, 3) := by decide +kernel
theorem d_2_9_49 : decode prog_2_method_9_code 49 = .ok (.goto (-47), 3) := by decide +kernel
theorem d_2_9_52 : decode prog_2_method_9_code 52 = .ok (.return_, 1) := by decide +kernel
theorem d_3_1_0 : decode prog_3_method_1_code 0 = .ok (.aload_n 0, 1) := by decide +kernel
theorem d_3_1_1 : decode prog_3_method_1_code 1 = .ok (.invokespecial 3, 3) := by decide +kernel
theorem d_3_1_4 : decode prog_3_method_1_code 4 = .ok (.aload_n 0, 1) := by decide +kernel
theorem d_3_1_5 : decode prog_3_method_1_code 5 = .ok (.sipush 1501, 3) := by decide +kernel
theorem d_3_1_8 : decode prog_3_method_1_code 8 = .ok (.newarray .int, 2) := by decide +kernel
theorem d_3_1_10 : decode prog_3_method_1_code 10 = .ok (.putfield 9, 3) := by decide +kernel
theorem d_3_1_13 : decode prog_3_method_1_code 13 = .ok (.aload_n 0, 1) := by decide +kernel
theorem d_3_1_14 : decode prog_3_method_1_code 14 = .ok (.sipush 1501, 3) := by decide +kernel
theorem d_3_1_17 : decode prog_3_method_1_code 17 = .ok (.newarray .int, 2) := by decide +kernel
theorem d_3_1_19 : decode prog_3_method_1_code 19 = .ok (.putfield 15, 3) := by decide +kernel
theorem d_3_1_22 : decode prog_3_method_1_code 22 = .ok (.aload_n 0, 1) := by decide +kernel
theorem d_3_1_23 : decode prog_3_method_1_code 23 = .ok (.sipush 1501, 3) := by decide +kernel
theorem d_3_1_26 : decode prog_3_method_1_code 26 = .ok (.newarray .int, 2) := by decide +kernel
theorem d_3_1_28 : decode prog_3_method_1_code 28 = .ok (.putfield 18, 3) := by decide +kernel
theorem d_3_1_31 : decode prog_3_method_1_code 31 = .ok (.aload_n 0, 1) := by decide +kernel
