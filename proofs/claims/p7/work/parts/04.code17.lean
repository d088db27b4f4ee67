theorem d_3_1_32 : decode prog_3_method_1_code 32 = .ok (.sipush 1501, 3) := by decide +kernel
theorem d_3_1_35 : decode prog_3_method_1_code 35 = .ok (.newarray .int, 2) := by decide +kernel
theorem d_3_1_37 : decode prog_3_method_1_code 37 = .ok (.putfield 21, 3) := by decide +kernel
theorem d_3_1_40 : decode prog_3_method_1_code 40 = .ok (.aload_n 0, 1) := by decide +kernel
theorem d_3_1_41 : decode prog_3_method_1_code 41 = .ok (.sipush 1501, 3) := by decide +kernel
theorem d_3_1_44 : decode prog_3_method_1_code 44 = .ok (.newarray .int, 2) := by decide +kernel
theorem d_3_1_46 : decode prog_3_method_1_code 46 = .ok (.putfield 24, 3) := by decide +kernel
theorem d_3_1_49 : decode prog_3_method_1_code 49 = .ok (.aload_n 0, 1) := by decide +kernel
theorem d_3_1_50 : decode prog_3_method_1_code 50 = .ok (.sipush 3000, 3) := by decide +kernel
theorem d_3_1_53 : decode prog_3_method_1_code 53 = .ok (.newarray .int, 2) := by decide +kernel
theorem d_3_1_55 : decode prog_3_method_1_code 55 = .ok (.putfield 27, 3) := by decide +kernel
theorem d_3_1_58 : decode prog_3_method_1_code 58 = .ok (.aload_n 0, 1) := by decide +kernel
theorem d_3_1_59 : decode prog_3_method_1_code 59 = .ok (.sipush 1501, 3) := by decide +kernel
theorem d_3_1_62 : decode prog_3_method_1_code 62 = .ok (.newarray .int, 2) := by decide +kernel
theorem d_3_1_64 : decode prog_3_method_1_code 64 = .ok (.putfield 30, 3) := by decide +kernel
theorem d_3_1_67 : decode prog_3_method_1_code 67 = .ok (.aload_n 0, 1) := by decide +kernel
theorem d_3_1_68 : decode prog_3_method_1_code 68 = .ok (.iconst 0, 1) := by decide +kernel
theorem d_3_1_69 : decode prog_3_method_1_code 69 = .ok (.putfield 33, 3) := by decide +kernel
theorem d_3_1_72 : decode prog_3_method_1_code 72 = .ok (.aload_n 0, 1) := by decide +kernel
theorem d_3_1_73 : decode prog_3_method_1_code 73 = .ok (.iconst 0, 1) := by decide +kernel
theorem d_3_1_74 : decode prog_3_method_1_code 74 = .ok (.putfield 37, 3) := by decide +kernel
theorem d_3_1_77 : decode prog_3_method_1_code 77 = .ok (.return_, 1) := by decide +kernel
theorem d_3_2_0 : decode prog_3_method_2_code 0 = .ok (.aload_n 0, 1) := by decide +kernel
theorem d_3_2_1 : decode prog_3_method_2_code 1 = .ok (.getfield 33, 3) := by decide +kernel
theorem d_3_2_4 : decode prog_3_method_2_code 4 = .ok (.ifCond .eq 10, 3) := by decide +kernel
theorem d_3_2_7 : decode prog_3_method_2_code 7 = .ok (.aload_n 0, 1) := by decide +kernel
theorem d_3_2_8 : decode prog_3_method_2_code 8 = .ok (.getfield 37, 3) := by decide +kernel
theorem d_3_2_11 : decode prog_3_method_2_code 11 = .ok (.goto 5, 3) := by decide +kernel
theorem d_3_2_14 : decode prog_3_method_2_code 14 = .ok (.bipush (-2), 2) := by decide +kernel
theorem d_3_2_16 : decode prog_3_method_2_code 16 = .ok (.ireturn, 1) := by decide +kernel
theorem d_3_3_0 : decode prog_3_method_3_code 0 = .ok (.aload_n 0, 1) := by decide +kernel
theorem d_3_3_1 : decode prog_3_method_3_code 1 = .ok (.getfield 33, 3) := by decide +kernel
theorem d_3_3_4 : decode prog_3_method_3_code 4 = .ok (.ifCond .eq 15, 3) := by decide +kernel
theorem d_3_3_7 : decode prog_3_method_3_code 7 = .ok (.iload_n 1, 1) := by decide +kernel
theorem d_3_3_8 : decode prog_3_method_3_code 8 = .ok (.ifCond .lt 11, 3) := by decide +kernel
theorem d_3_3_11 : decode prog_3_method_3_code 11 = .ok (.iload_n 1, 1) := by decide +kernel
theorem d_3_3_12 : decode prog_3_method_3_code 12 = .ok (.aload_n 0, 1) := by decide +kernel
theorem d_3_3_13 : decode prog_3_method_3_code 13 = .ok (.getfield 37, 3) := by decide +kernel
theorem d_3_3_16 : decode prog_3_method_3_code 16 = .ok (.if_icmp .lt 6, 3) := by decide +kernel
theorem d_3_3_19 : decode prog_3_method_3_code 19 = .ok (.bipush (-2), 2) := by decide +kernel
theorem d_3_3_21 : decode prog_3_method_3_code 21 = .ok (.ireturn, 1) := by decide +kernel
theorem d_3_3_22 : decode prog_3_method_3_code 22 = .ok (.iload_n 2, 1) := by decide +kernel
theorem d_3_3_23 : decode prog_3_method_3_code 23 = .ok (.tableswitch 57 0 3 #[29, 36, 43, 50], 29) := by decide +kernel
theorem d_3_3_52 : decode prog_3_method_3_code 52 = .ok (.aload_n 0, 1) := by decide +kernel
theorem d_3_3_53 : decode prog_3_method_3_code 53 = .ok (.getfield 9, 3) := by decide +kernel
theorem d_3_3_56 : decode prog_3_method_3_code 56 = .ok (.iload_n 1, 1) := by decide +kernel
theorem d_3_3_57 : decode prog_3_method_3_code 57 = .ok (.iaload, 1) := by decide +kernel
theorem d_3_3_58 : decode prog_3_method_3_code 58 = .ok (.ireturn, 1) := by decide +kernel
theorem d_3_3_59 : decode prog_3_method_3_code 59 = .ok (.aload_n 0, 1) := by decide +kernel
theorem d_3_3_60 : decode prog_3_method_3_code 60 = .ok (.getfield 15, 3) := by decide +kernel
theorem d_3_3_63 : decode prog_3_method_3_code 63 = .ok (.iload_n 1, 1) := by decide +kernel
theorem d_3_3_64 : decode prog_3_method_3_code 64 = .ok (.iaload, 1) := by decide +kernel
theorem d_3_3_65 : decode prog_3_method_3_code 65 = .ok (.ireturn, 1) := by decide +kernel
theorem d_3_3_66 : decode prog_3_method_3_code 66 = .ok (.aload_n 0, 1) := by decide +kernel
theorem d_3_3_67 : decode prog_3_method_3_code 67 = .ok (.getfield 18, 3) := by decide +kernel
theorem d_3_3_70 : decode prog_3_method_3_code 70 = .ok (.iload_n 1, 1) := by decide +kernel
theorem d_3_3_71 : decode prog_3_method_3_code 71 = .ok (.iaload, 1) := by decide +kernel
theorem d_3_3_72 : decode prog_3_method_3_code 72 = .ok (.ireturn, 1) := by decide +kernel
theorem d_3_3_73 : decode prog_3_method_3_code 73 = .ok (.aload_n 0, 1) := by decide +kernel
theorem d_3_3_74 : decode prog_3_method_3_code 74 = .ok (.getfield 21, 3) := by decide +kernel
theorem d_3_3_77 : decode prog_3_method_3_code 77 = .ok (.iload_n 1, 1) := by decide +kernel
theorem d_3_3_78 : decode prog_3_method_3_code 78 = .ok (.iaload, 1) := by decide +kernel
theorem d_3_3_79 : decode prog_3_method_3_code 79 = .ok (.ireturn, 1) := by decide +kernel
theorem d_3_3_80 : decode prog_3_method_3_code 80 = .ok (.aload_n 0, 1) := by decide +kernel
theorem d_3_3_81 : decode prog_3_method_3_code 81 = .ok (.getfield 24, 3) := by decide +kernel
theorem d_3_3_84 : decode prog_3_method_3_code 84 = .ok (.iload_n 1, 1) := by decide +kernel
theorem d_3_3_85 : decode prog_3_method_3_code 85 = .ok (.iaload, 1) := by decide +kernel
theorem d_3_3_86 : decode prog_3_method_3_code 86 = .ok (.ireturn, 1) := by decide +kernel
theorem d_3_4_0 : decode prog_3_method_4_code 0 = .ok (.aload_n 0, 1) := by decide +kernel
theorem d_3_4_1 : decode prog_3_method_4_code 1 = .ok (.getfield 33, 3) := by decide +kernel
theorem d_3_4_4 : decode prog_3_method_4_code 4 = .ok (.ifCond .eq 23, 3) := by decide +kernel
theorem d_3_4_7 : decode prog_3_method_4_code 7 = .ok (.iload_n 1, 1) := by decide +kernel
theorem d_3_4_8 : decode prog_3_method_4_code 8 = .ok (.ifCond .lt 19, 3) := by decide +kernel
theorem d_3_4_11 : decode prog_3_method_4_code 11 = .ok (.iload_n 1, 1) := by decide +kernel
theorem d_3_4_12 : decode prog_3_method_4_code 12 = .ok (.sipush 3000, 3) := by decide +kernel
theorem d_3_4_15 : decode prog_3_method_4_code 15 = .ok (.if_icmp .ge 12, 3) := by decide +kernel
theorem d_3_4_18 : decode prog_3_method_4_code 18 = .ok (.aload_n 0, 1) := by decide +kernel
theorem d_3_4_19 : decode prog_3_method_4_code 19 = .ok (.getfield 27, 3) := by decide +kernel
theorem d_3_4_22 : decode prog_3_method_4_code 22 = .ok (.iload_n 1, 1) := by decide +kernel
theorem d_3_4_23 : decode prog_3_method_4_code 23 = .ok (.iaload, 1) := by decide +kernel
theorem d_3_4_24 : decode prog_3_method_4_code 24 = .ok (.goto 5, 3) := by decide +kernel
theorem d_3_4_27 : decode prog_3_method_4_code 27 = .ok (.bipush (-2), 2) := by decide +kernel
theorem d_3_4_29 : decode prog_3_method_4_code 29 = .ok (.ireturn, 1) := by decide +kernel
theorem d_3_5_0 : decode prog_3_method_5_code 0 = .ok (.aload_n 0, 1) := by decide +kernel
theorem d_3_5_1 : decode prog_3_method_5_code 1 = .ok (.iconst 1, 1) := by decide +kernel
theorem d_3_5_2 : decode prog_3_method_5_code 2 = .ok (.putfield 33, 3) := by decide +kernel
theorem d_3_5_5 : decode prog_3_method_5_code 5 = .ok (.aload_n 0, 1) := by decide +kernel
theorem d_3_5_6 : decode prog_3_method_5_code 6 = .ok (.iconst 0, 1) := by decide +kernel
theorem d_3_5_7 : decode prog_3_method_5_code 7 = .ok (.putfield 37, 3) := by decide +kernel
theorem d_3_5_10 : decode prog_3_method_5_code 10 = .ok (.iconst 0, 1) := by decide +kernel
theorem d_3_5_11 : decode prog_3_method_5_code 11 = .ok (.istore_n 3, 1) := by decide +kernel
theorem d_3_5_12 : decode prog_3_method_5_code 12 = .ok (.iload_n 3, 1) := by decide +kernel
theorem d_3_5_13 : decode prog_3_method_5_code 13 = .ok (.aload_n 2, 1) := by decide +kernel
theorem d_3_5_14 : decode prog_3_method_5_code 14 = .ok (.invokevirtual 41, 3) := by decide +kernel
theorem d_3_5_17 : decode prog_3_method_5_code 17 = .ok (.if_icmp .ge 24, 3) := by decide +kernel
theorem d_3_5_20 : decode prog_3_method_5_code 20 = .ok (.aload_n 2, 1) := by decide +kernel
theorem d_3_5_21 : decode prog_3_method_5_code 21 = .ok (.iload_n 3, 1) := by decide +kernel
theorem d_3_5_22 : decode prog_3_method_5_code 22 = .ok (.invokevirtual 46, 3) := by decide +kernel
theorem d_3_5_25 : decode prog_3_method_5_code 25 = .ok (.ifCond .ne 10, 3) := by decide +kernel
theorem d_3_5_28 : decode prog_3_method_5_code 28 = .ok (.aload_n 0, 1) := by decide +kernel
theorem d_3_5_29 : decode prog_3_method_5_code 29 = .ok (.aload_n 1, 1) := by decide +kernel
theorem d_3_5_30 : decode prog_3_method_5_code 30 = .ok (.aload_n 2, 1) := by decide +kernel
theorem d_3_5_31 : decode prog_3_method_5_code 31 = .ok (.iload_n 3, 1) := by decide +kernel
theorem d_3_5_32 : decode prog_3_method_5_code 32 = .ok (.invokevirtual 50, 3) := by decide +kernel
theorem d_3_5_35 : decode prog_3_method_5_code 35 = .ok (.iinc 3 1, 3) := by decide +kernel
theorem d_3_5_38 : decode prog_3_method_5_code 38 = .ok (.goto (-26), 3) := by decide +kernel
theorem d_3_5_41 : decode prog_3_method_5_code 41 = .ok (.iconst 0, 1) := by decide +kernel
theorem d_3_5_42 : decode prog_3_method_5_code 42 = .ok (.istore_n 3, 1) := by decide +kernel
theorem d_3_5_43 : decode prog_3_method_5_code 43 = .ok (.iload_n 3, 1) := by decide +kernel
theorem d_3_5_44 : decode prog_3_method_5_code 44 = .ok (.aload_n 1, 1) := by decide +kernel
theorem d_3_5_45 : decode prog_3_method_5_code 45 = .ok (.invokevirtual 54, 3) := by decide +kernel
theorem d_3_5_48 : decode prog_3_method_5_code 48 = .ok (.if_icmp .ge 16, 3) := by decide +kernel
theorem d_3_5_51 : decode prog_3_method_5_code 51 = .ok (.aload_n 0, 1) := by decide +kernel
theorem d_3_5_52 : decode prog_3_method_5_code 52 = .ok (.aload_n 1, 1) := by decide +kernel
theorem d_3_5_53 : decode prog_3_method_5_code 53 = .ok (.aload_n 2, 1) := by decide +kernel
theorem d_3_5_54 : decode prog_3_method_5_code 54 = .ok (.iload_n 3, 1) := by decide +kernel
theorem d_3_5_55 : decode prog_3_method_5_code 55 = .ok (.invokevirtual 57, 3) := by decide +kernel
theorem d_3_5_58 : decode prog_3_method_5_code 58 = .ok (.iinc 3 1, 3) := by decide +kernel
theorem d_3_5_61 : decode prog_3_method_5_code 61 = .ok (.goto (-18), 3) := by decide +kernel
theorem d_3_5_64 : decode prog_3_method_5_code 64 = .ok (.iconst 0, 1) := by decide +kernel
theorem d_3_5_65 : decode prog_3_method_5_code 65 = .ok (.istore_n 3, 1) := by decide +kernel
theorem d_3_5_66 : decode prog_3_method_5_code 66 = .ok (.iload_n 3, 1) := by decide +kernel
theorem d_3_5_67 : decode prog_3_method_5_code 67 = .ok (.sipush 3000, 3) := by decide +kernel
theorem d_3_5_70 : decode prog_3_method_5_code 70 = .ok (.if_icmp .ge 24, 3) := by decide +kernel
theorem d_3_5_73 : decode prog_3_method_5_code 73 = .ok (.aload_n 0, 1) := by decide +kernel
theorem d_3_5_74 : decode prog_3_method_5_code 74 = .ok (.getfield 27, 3) := by decide +kernel
theorem d_3_5_77 : decode prog_3_method_5_code 77 = .ok (.iload_n 3, 1) := by decide +kernel
theorem d_3_5_78 : decode prog_3_method_5_code 78 = .ok (.aload_n 0, 1) := by decide +kernel
theorem d_3_5_79 : decode prog_3_method_5_code 79 = .ok (.aload_n 2, 1) := by decide +kernel
theorem d_3_5_80 : decode prog_3_method_5_code 80 = .ok (.iload_n 3, 1) := by decide +kernel
theorem d_3_5_81 : decode prog_3_method_5_code 81 = .ok (.invokevirtual 60, 3) := by decide +kernel
theorem d_3_5_84 : decode prog_3_method_5_code 84 = .ok (.invokevirtual 64, 3) := by decide +kernel
theorem d_3_5_87 : decode prog_3_method_5_code 87 = .ok (.iastore, 1) := by decide +kernel
theorem d_3_5_88 : decode prog_3_method_5_code 88 = .ok (.iinc 3 1, 3) := by decide +kernel
theorem d_3_5_91 : decode prog_3_method_5_code 91 = .ok (.goto (-25), 3) := by decide +kernel
theorem d_3_5_94 : decode prog_3_method_5_code 94 = .ok (.return_, 1) := by decide +kernel
theorem d_3_6_0 : decode prog_3_method_6_code 0 = .ok (.aload_n 0, 1) := by decide +kernel
theorem d_3_6_1 : decode prog_3_method_6_code 1 = .ok (.aload_n 1, 1) := by decide +kernel
theorem d_3_6_2 : decode prog_3_method_6_code 2 = .ok (.aload_n 2, 1) := by decide +kernel
theorem d_3_6_3 : decode prog_3_method_6_code 3 = .ok (.iload_n 3, 1) := by decide +kernel
theorem d_3_6_4 : decode prog_3_method_6_code 4 = .ok (.invokevirtual 67, 3) := by decide +kernel
theorem d_3_6_7 : decode prog_3_method_6_code 7 = .ok (.invokevirtual 70, 3) := by decide +kernel
theorem d_3_6_10 : decode prog_3_method_6_code 10 = .ok (.aload_n 2, 1) := by decide +kernel
theorem d_3_6_11 : decode prog_3_method_6_code 11 = .ok (.iload_n 3, 1) := by decide +kernel
theorem d_3_6_12 : decode prog_3_method_6_code 12 = .ok (.invokevirtual 67, 3) := by decide +kernel
theorem d_3_6_15 : decode prog_3_method_6_code 15 = .ok (.istore 4, 2) := by decide +kernel
theorem d_3_6_17 : decode prog_3_method_6_code 17 = .ok (.iconst 0, 1) := by decide +kernel
theorem d_3_6_18 : decode prog_3_method_6_code 18 = .ok (.istore 5, 2) := by decide +kernel
theorem d_3_6_20 : decode prog_3_method_6_code 20 = .ok (.iload 5, 2) := by decide +kernel
theorem d_3_6_22 : decode prog_3_method_6_code 22 = .ok (.sipush 1501, 3) := by decide +kernel
theorem d_3_6_25 : decode prog_3_method_6_code 25 = .ok (.if_icmp .ge 37, 3) := by decide +kernel
theorem d_3_6_28 : decode prog_3_method_6_code 28 = .ok (.iload 4, 2) := by decide +kernel
theorem d_3_6_30 : decode prog_3_method_6_code 30 = .ok (.ifCond .lt 32, 3) := by decide +kernel
theorem d_3_6_33 : decode prog_3_method_6_code 33 = .ok (.aload_n 0, 1) := by decide +kernel
theorem d_3_6_34 : decode prog_3_method_6_code 34 = .ok (.aload_n 1, 1) := by decide +kernel
theorem d_3_6_35 : decode prog_3_method_6_code 35 = .ok (.aload_n 2, 1) := by decide +kernel
theorem d_3_6_36 : decode prog_3_method_6_code 36 = .ok (.aload_n 1, 1) := by decide +kernel
theorem d_3_6_37 : decode prog_3_method_6_code 37 = .ok (.iload 4, 2) := by decide +kernel
theorem d_3_6_39 : decode prog_3_method_6_code 39 = .ok (.invokevirtual 74, 3) := by decide +kernel
theorem d_3_6_42 : decode prog_3_method_6_code 42 = .ok (.invokevirtual 67, 3) := by decide +kernel
theorem d_3_6_45 : decode prog_3_method_6_code 45 = .ok (.invokevirtual 70, 3) := by decide +kernel
theorem d_3_6_48 : decode prog_3_method_6_code 48 = .ok (.aload_n 1, 1) := by decide +kernel
theorem d_3_6_49 : decode prog_3_method_6_code 49 = .ok (.iload 4, 2) := by decide +kernel
theorem d_3_6_51 : decode prog_3_method_6_code 51 = .ok (.invokevirtual 77, 3) := by decide +kernel
theorem d_3_6_54 : decode prog_3_method_6_code 54 = .ok (.istore 4, 2) := by decide +kernel
theorem d_3_6_56 : decode prog_3_method_6_code 56 = .ok (.iinc 5 1, 3) := by decide +kernel
theorem d_3_6_59 : decode prog_3_method_6_code 59 = .ok (.goto (-39), 3) := by decide +kernel
theorem d_3_6_62 : decode prog_3_method_6_code 62 = .ok (.return_, 1) := by decide +kernel
theorem d_3_7_0 : decode prog_3_method_7_code 0 = .ok (.iload_n 2, 1) := by decide +kernel
theorem d_3_7_1 : decode prog_3_method_7_code 1 = .ok (.istore_n 3, 1) := by decide +kernel
theorem d_3_7_2 : decode prog_3_method_7_code 2 = .ok (.iconst 0, 1) := by decide +kernel
theorem d_3_7_3 : decode prog_3_method_7_code 3 = .ok (.istore 4, 2) := by decide +kernel
theorem d_3_7_5 : decode prog_3_method_7_code 5 = .ok (.iload 4, 2) := by decide +kernel
theorem d_3_7_7 : decode prog_3_method_7_code 7 = .ok (.sipush 1501, 3) := by decide +kernel
theorem d_3_7_10 : decode prog_3_method_7_code 10 = .ok (.if_icmp .ge 46, 3) := by decide +kernel
theorem d_3_7_13 : decode prog_3_method_7_code 13 = .ok (.iload_n 3, 1) := by decide +kernel
theorem d_3_7_14 : decode prog_3_method_7_code 14 = .ok (.ifCond .lt 42, 3) := by decide +kernel
theorem d_3_7_17 : decode prog_3_method_7_code 17 = .ok (.iload_n 3, 1) := by decide +kernel
theorem d_3_7_18 : decode prog_3_method_7_code 18 = .ok (.sipush 1501, 3) := by decide +kernel
theorem d_3_7_21 : decode prog_3_method_7_code 21 = .ok (.if_icmp .ge 23, 3) := by decide +kernel
theorem d_3_7_24 : decode prog_3_method_7_code 24 = .ok (.aload_n 0, 1) := by decide +kernel
theorem d_3_7_25 : decode prog_3_method_7_code 25 = .ok (.getfield 30, 3) := by decide +kernel
theorem d_3_7_28 : decode prog_3_method_7_code 28 = .ok (.iload_n 3, 1) := by decide +kernel
theorem d_3_7_29 : decode prog_3_method_7_code 29 = .ok (.aload_n 0, 1) := by decide +kernel
theorem d_3_7_30 : decode prog_3_method_7_code 30 = .ok (.getfield 37, 3) := by decide +kernel
theorem d_3_7_33 : decode prog_3_method_7_code 33 = .ok (.iastore, 1) := by decide +kernel
theorem d_3_7_34 : decode prog_3_method_7_code 34 = .ok (.aload_n 0, 1) := by decide +kernel
theorem d_3_7_35 : decode prog_3_method_7_code 35 = .ok (.dup, 1) := by decide +kernel
theorem d_3_7_36 : decode prog_3_method_7_code 36 = .ok (.getfield 37, 3) := by decide +kernel
theorem d_3_7_39 : decode prog_3_method_7_code 39 = .ok (.iconst 1, 1) := by decide +kernel
theorem d_3_7_40 : decode prog_3_method_7_code 40 = .ok (.iadd, 1) := by decide +kernel
theorem d_3_7_41 : decode prog_3_method_7_code 41 = .ok (.putfield 37, 3) := by decide +kernel
theorem d_3_7_44 : decode prog_3_method_7_code 44 = .ok (.aload_n 1, 1) := by decide +kernel
theorem d_3_7_45 : decode prog_3_method_7_code 45 = .ok (.iload_n 3, 1) := by decide +kernel
theorem d_3_7_46 : decode prog_3_method_7_code 46 = .ok (.invokevirtual 77, 3) := by decide +kernel
theorem d_3_7_49 : decode prog_3_method_7_code 49 = .ok (.istore_n 3, 1) := by decide +kernel
theorem d_3_7_50 : decode prog_3_method_7_code 50 = .ok (.iinc 4 1, 3) := by decide +kernel
theorem d_3_7_53 : decode prog_3_method_7_code 53 = .ok (.goto (-48), 3) := by decide +kernel
theorem d_3_7_56 : decode prog_3_method_7_code 56 = .ok (.return_, 1) := by decide +kernel
theorem d_3_8_0 : decode prog_3_method_8_code 0 = .ok (.iload_n 1, 1) := by decide +kernel
theorem d_3_8_1 : decode prog_3_method_8_code 1 = .ok (.ifCond .lt 19, 3) := by decide +kernel
theorem d_3_8_4 : decode prog_3_method_8_code 4 = .ok (.iload_n 1, 1) := by decide +kernel
theorem d_3_8_5 : decode prog_3_method_8_code 5 = .ok (.sipush 1501, 3) := by decide +kernel
theorem d_3_8_8 : decode prog_3_method_8_code 8 = .ok (.if_icmp .ge 12, 3) := by decide +kernel
theorem d_3_8_11 : decode prog_3_method_8_code 11 = .ok (.aload_n 0, 1) := by decide +kernel
theorem d_3_8_12 : decode prog_3_method_8_code 12 = .ok (.getfield 30, 3) := by decide +kernel
theorem d_3_8_15 : decode prog_3_method_8_code 15 = .ok (.iload_n 1, 1) := by decide +kernel
theorem d_3_8_16 : decode prog_3_method_8_code 16 = .ok (.iaload, 1) := by decide +kernel
theorem d_3_8_17 : decode prog_3_method_8_code 17 = .ok (.goto 4, 3) := by decide +kernel
theorem d_3_8_20 : decode prog_3_method_8_code 20 = .ok (.iconst (-1), 1) := by decide +kernel
theorem d_3_8_21 : decode prog_3_method_8_code 21 = .ok (.ireturn, 1) := by decide +kernel
theorem d_3_9_0 : decode prog_3_method_9_code 0 = .ok (.aload_n 0, 1) := by decide +kernel
theorem d_3_9_1 : decode prog_3_method_9_code 1 = .ok (.iload_n 3, 1) := by decide +kernel
theorem d_3_9_2 : decode prog_3_method_9_code 2 = .ok (.invokevirtual 64, 3) := by decide +kernel
theorem d_3_9_5 : decode prog_3_method_9_code 5 = .ok (.istore 4, 2) := by decide +kernel
theorem d_3_9_7 : decode prog_3_method_9_code 7 = .ok (.iload 4, 2) := by decide +kernel
theorem d_3_9_9 : decode prog_3_method_9_code 9 = .ok (.ifCond .lt 11, 3) := by decide +kernel
theorem d_3_9_12 : decode prog_3_method_9_code 12 = .ok (.iload 4, 2) := by decide +kernel
theorem d_3_9_14 : decode prog_3_method_9_code 14 = .ok (.sipush 1501, 3) := by decide +kernel
theorem d_3_9_17 : decode prog_3_method_9_code 17 = .ok (.if_icmp .lt 4, 3) := by decide +kernel
theorem d_3_9_20 : decode prog_3_method_9_code 20 = .ok (.return_, 1) := by decide +kernel
theorem d_3_9_21 : decode prog_3_method_9_code 21 = .ok (.aload_n 0, 1) := by decide +kernel
theorem d_3_9_22 : decode prog_3_method_9_code 22 = .ok (.getfield 9, 3) := by decide +kernel
theorem d_3_9_25 : decode prog_3_method_9_code 25 = .ok (.iload 4, 2) := by decide +kernel
theorem d_3_9_27 : decode prog_3_method_9_code 27 = .ok (.aload_n 1, 1) := by decide +kernel
theorem d_3_9_28 : decode prog_3_method_9_code 28 = .ok (.iload_n 3, 1) := by decide +kernel
theorem d_3_9_29 : decode prog_3_method_9_code 29 = .ok (.invokevirtual 80, 3) := by decide +kernel
theorem d_3_9_32 : decode prog_3_method_9_code 32 = .ok (.iastore, 1) := by decide +kernel
theorem d_3_9_33 : decode prog_3_method_9_code 33 = .ok (.aload_n 0, 1) := by decide +kernel
theorem d_3_9_34 : decode prog_3_method_9_code 34 = .ok (.getfield 15, 3) := by decide +kernel
theorem d_3_9_37 : decode prog_3_method_9_code 37 = .ok (.iload 4, 2) := by decide +kernel
theorem d_3_9_39 : decode prog_3_method_9_code 39 = .ok (.aload_n 1, 1) := by decide +kernel
theorem d_3_9_40 : decode prog_3_method_9_code 40 = .ok (.iload_n 3, 1) := by decide +kernel
theorem d_3_9_41 : decode prog_3_method_9_code 41 = .ok (.invokevirtual 83, 3) := by decide +kernel
theorem d_3_9_44 : decode prog_3_method_9_code 44 = .ok (.iastore, 1) := by decide +kernel
theorem d_3_9_45 : decode prog_3_method_9_code 45 = .ok (.aload_n 0, 1) := by decide +kernel
theorem d_3_9_46 : decode prog_3_method_9_code 46 = .ok (.getfield 18, 3) := by decide +kernel
theorem d_3_9_49 : decode prog_3_method_9_code 49 = .ok (.iload 4, 2) := by decide +kernel
theorem d_3_9_51 : decode prog_3_method_9_code 51 = .ok (.aload_n 1, 1) := by decide +kernel
theorem d_3_9_52 : decode prog_3_method_9_code 52 = .ok (.iload_n 3, 1) := by decide +kernel
theorem d_3_9_53 : decode prog_3_method_9_code 53 = .ok (.invokevirtual 86, 3) := by decide +kernel
theorem d_3_9_56 : decode prog_3_method_9_code 56 = .ok (.iastore, 1) := by decide +kernel
theorem d_3_9_57 : decode prog_3_method_9_code 57 = .ok (.aload_n 0, 1) := by decide +kernel
theorem d_3_9_58 : decode prog_3_method_9_code 58 = .ok (.getfield 21, 3) := by decide +kernel
theorem d_3_9_61 : decode prog_3_method_9_code 61 = .ok (.iload 4, 2) := by decide +kernel
theorem d_3_9_63 : decode prog_3_method_9_code 63 = .ok (.aload_n 1, 1) := by decide +kernel
theorem d_3_9_64 : decode prog_3_method_9_code 64 = .ok (.iload_n 3, 1) := by decide +kernel
theorem d_3_9_65 : decode prog_3_method_9_code 65 = .ok (.invokevirtual 89, 3) := by decide +kernel
theorem d_3_9_68 : decode prog_3_method_9_code 68 = .ok (.ifCond .eq 7, 3) := by decide +kernel
theorem d_3_9_71 : decode prog_3_method_9_code 71 = .ok (.iconst 1, 1) := by decide +kernel
theorem d_3_9_72 : decode prog_3_method_9_code 72 = .ok (.goto 4, 3) := by decide +kernel
theorem d_3_9_75 : decode prog_3_method_9_code 75 = .ok (.iconst 0, 1) := by decide +kernel
theorem d_3_9_76 : decode prog_3_method_9_code 76 = .ok (.iastore, 1) := by decide +kernel
theorem d_3_9_77 : decode prog_3_method_9_code 77 = .ok (.aload_n 0, 1) := by decide +kernel
theorem d_3_9_78 : decode prog_3_method_9_code 78 = .ok (.getfield 24, 3) := by decide +kernel
theorem d_3_9_81 : decode prog_3_method_9_code 81 = .ok (.iload 4, 2) := by decide +kernel
theorem d_3_9_83 : decode prog_3_method_9_code 83 = .ok (.aload_n 0, 1) := by decide +kernel
theorem d_3_9_84 : decode prog_3_method_9_code 84 = .ok (.aload_n 2, 1) := by decide +kernel
theorem d_3_9_85 : decode prog_3_method_9_code 85 = .ok (.aload_n 1, 1) := by decide +kernel
theorem d_3_9_86 : decode prog_3_method_9_code 86 = .ok (.iload_n 3, 1) := by decide +kernel
theorem d_3_9_87 : decode prog_3_method_9_code 87 = .ok (.invokevirtual 92, 3) := by decide +kernel
theorem d_3_9_90 : decode prog_3_method_9_code 90 = .ok (.invokevirtual 95, 3) := by decide +kernel
theorem d_3_9_93 : decode prog_3_method_9_code 93 = .ok (.invokevirtual 64, 3) := by decide +kernel
theorem d_3_9_96 : decode prog_3_method_9_code 96 = .ok (.iastore, 1) := by decide +kernel
theorem d_3_9_97 : decode prog_3_method_9_code 97 = .ok (.return_, 1) := by decide +kernel
theorem d_4_10_0 : decode prog_4_method_10_code 0 = .ok (.aload_n 0, 1) := by decide +kernel
theorem d_4_10_1 : decode prog_4_method_10_code 1 = .ok (.getfield 9, 3) := by decide +kernel
theorem d_4_10_4 : decode prog_4_method_10_code 4 = .ok (.invokevirtual 23, 3) := by decide +kernel
theorem d_4_10_7 : decode prog_4_method_10_code 7 = .ok (.istore_n 1, 1) := by decide +kernel
theorem d_4_10_8 : decode prog_4_method_10_code 8 = .ok (.aload_n 0, 1) := by decide +kernel
theorem d_4_10_9 : decode prog_4_method_10_code 9 = .ok (.invokevirtual 87, 3) := by decide +kernel
theorem d_4_10_12 : decode prog_4_method_10_code 12 = .ok (.istore_n 2, 1) := by decide +kernel
theorem d_4_10_13 : decode prog_4_method_10_code 13 = .ok (.iconst 0, 1) := by decide +kernel
theorem d_4_10_14 : decode prog_4_method_10_code 14 = .ok (.istore_n 3, 1) := by decide +kernel
theorem d_4_10_15 : decode prog_4_method_10_code 15 = .ok (.iload_n 3, 1) := by decide +kernel
theorem d_4_10_16 : decode prog_4_method_10_code 16 = .ok (.sipush 3001, 3) := by decide +kernel
theorem d_4_10_19 : decode prog_4_method_10_code 19 = .ok (.if_icmp .ge 49, 3) := by decide +kernel
theorem d_4_10_22 : decode prog_4_method_10_code 22 = .ok (.aload_n 0, 1) := by decide +kernel
theorem d_4_10_23 : decode prog_4_method_10_code 23 = .ok (.invokevirtual 90, 3) := by decide +kernel
theorem d_4_10_26 : decode prog_4_method_10_code 26 = .ok (.ifCond .eq 42, 3) := by decide +kernel
theorem d_4_10_29 : decode prog_4_method_10_code 29 = .ok (.aload_n 0, 1) := by decide +kernel
theorem d_4_10_30 : decode prog_4_method_10_code 30 = .ok (.getfield 19, 3) := by decide +kernel
theorem d_4_10_33 : decode prog_4_method_10_code 33 = .ok (.iload_n 2, 1) := by decide +kernel
theorem d_4_10_34 : decode prog_4_method_10_code 34 = .ok (.iconst 1, 1) := by decide +kernel
theorem d_4_10_35 : decode prog_4_method_10_code 35 = .ok (.iload_n 1, 1) := by decide +kernel
theorem d_4_10_36 : decode prog_4_method_10_code 36 = .ok (.invokevirtual 39, 3) := by decide +kernel
theorem d_4_10_39 : decode prog_4_method_10_code 39 = .ok (.aload_n 0, 1) := by decide +kernel
theorem d_4_10_40 : decode prog_4_method_10_code 40 = .ok (.getfield 9, 3) := by decide +kernel
theorem d_4_10_43 : decode prog_4_method_10_code 43 = .ok (.invokevirtual 23, 3) := by decide +kernel
theorem d_4_10_46 : decode prog_4_method_10_code 46 = .ok (.istore_n 1, 1) := by decide +kernel
theorem d_4_10_47 : decode prog_4_method_10_code 47 = .ok (.aload_n 0, 1) := by decide +kernel
theorem d_4_10_48 : decode prog_4_method_10_code 48 = .ok (.getfield 19, 3) := by decide +kernel
theorem d_4_10_51 : decode prog_4_method_10_code 51 = .ok (.aload_n 0, 1) := by decide +kernel
theorem d_4_10_52 : decode prog_4_method_10_code 52 = .ok (.invokevirtual 87, 3) := by decide +kernel
theorem d_4_10_55 : decode prog_4_method_10_code 55 = .ok (.iconst 1, 1) := by decide +kernel
theorem d_4_10_56 : decode prog_4_method_10_code 56 = .ok (.iload_n 1, 1) := by decide +kernel
theorem d_4_10_57 : decode prog_4_method_10_code 57 = .ok (.invokevirtual 39, 3) := by decide +kernel
theorem d_4_10_60 : decode prog_4_method_10_code 60 = .ok (.iconst 1, 1) := by decide +kernel
theorem d_4_10_61 : decode prog_4_method_10_code 61 = .ok (.istore_n 2, 1) := by decide +kernel
theorem d_4_10_62 : decode prog_4_method_10_code 62 = .ok (.iinc 3 1, 3) := by decide +kernel
theorem d_4_10_65 : decode prog_4_method_10_code 65 = .ok (.goto (-50), 3) := by decide +kernel
theorem d_4_10_68 : decode prog_4_method_10_code 68 = .ok (.iload_n 2, 1) := by decide +kernel
theorem d_4_10_69 : decode prog_4_method_10_code 69 = .ok (.ireturn, 1) := by decide +kernel
theorem d_4_11_0 : decode prog_4_method_11_code 0 = .ok (.aload_n 0, 1) := by decide +kernel
theorem d_4_11_1 : decode prog_4_method_11_code 1 = .ok (.getfield 9, 3) := by decide +kernel
theorem d_4_11_4 : decode prog_4_method_11_code 4 = .ok (.bipush 32, 2) := by decide +kernel
theorem d_4_11_6 : decode prog_4_method_11_code 6 = .ok (.invokevirtual 62, 3) := by decide +kernel
theorem d_4_11_9 : decode prog_4_method_11_code 9 = .ok (.ifCond .ne 15, 3) := by decide +kernel
theorem d_4_11_12 : decode prog_4_method_11_code 12 = .ok (.aload_n 0, 1) := by decide +kernel
theorem d_4_11_13 : decode prog_4_method_11_code 13 = .ok (.getfield 9, 3) := by decide +kernel
theorem d_4_11_16 : decode prog_4_method_11_code 16 = .ok (.bipush 25, 2) := by decide +kernel
theorem d_4_11_18 : decode prog_4_method_11_code 18 = .ok (.invokevirtual 62, 3) := by decide +kernel
theorem d_4_11_21 : decode prog_4_method_11_code 21 = .ok (.ifCond .eq 7, 3) := by decide +kernel
theorem d_4_11_24 : decode prog_4_method_11_code 24 = .ok (.iconst 1, 1) := by decide +kernel
theorem d_4_11_25 : decode prog_4_method_11_code 25 = .ok (.goto 4, 3) := by decide +kernel
theorem d_4_11_28 : decode prog_4_method_11_code 28 = .ok (.iconst 0, 1) := by decide +kernel
theorem d_4_11_29 : decode prog_4_method_11_code 29 = .ok (.ireturn, 1) := by decide +kernel
theorem d_4_12_0 : decode prog_4_method_12_code 0 = .ok (.aload_n 0, 1) := by decide +kernel
theorem d_4_12_1 : decode prog_4_method_12_code 1 = .ok (.getfield 9, 3) := by decide +kernel
theorem d_4_12_4 : decode prog_4_method_12_code 4 = .ok (.invokevirtual 23, 3) := by decide +kernel
theorem d_4_12_7 : decode prog_4_method_12_code 7 = .ok (.istore_n 1, 1) := by decide +kernel
theorem d_4_12_8 : decode prog_4_method_12_code 8 = .ok (.aload_n 0, 1) := by decide +kernel
theorem d_4_12_9 : decode prog_4_method_12_code 9 = .ok (.invokevirtual 93, 3) := by decide +kernel
theorem d_4_12_12 : decode prog_4_method_12_code 12 = .ok (.istore_n 2, 1) := by decide +kernel
theorem d_4_12_13 : decode prog_4_method_12_code 13 = .ok (.iconst 0, 1) := by decide +kernel
theorem d_4_12_14 : decode prog_4_method_12_code 14 = .ok (.istore_n 3, 1) := by decide +kernel
theorem d_4_12_15 : decode prog_4_method_12_code 15 = .ok (.iload_n 3, 1) := by decide +kernel
theorem d_4_12_16 : decode prog_4_method_12_code 16 = .ok (.sipush 3001, 3) := by decide +kernel
theorem d_4_12_19 : decode prog_4_method_12_code 19 = .ok (.if_icmp .ge 54, 3) := by decide +kernel
theorem d_4_12_22 : decode prog_4_method_12_code 22 = .ok (.aload_n 0, 1) := by decide +kernel
theorem d_4_12_23 : decode prog_4_method_12_code 23 = .ok (.getfield 9, 3) := by decide +kernel
theorem d_4_12_26 : decode prog_4_method_12_code 26 = .ok (.bipush 33, 2) := by decide +kernel
theorem d_4_12_28 : decode prog_4_method_12_code 28 = .ok (.invokevirtual 62, 3) := by decide +kernel
theorem d_4_12_31 : decode prog_4_method_12_code 31 = .ok (.ifCond .eq 42, 3) := by decide +kernel
theorem d_4_12_34 : decode prog_4_method_12_code 34 = .ok (.aload_n 0, 1) := by decide +kernel
theorem d_4_12_35 : decode prog_4_method_12_code 35 = .ok (.getfield 19, 3) := by decide +kernel
theorem d_4_12_38 : decode prog_4_method_12_code 38 = .ok (.iload_n 2, 1) := by decide +kernel
theorem d_4_12_39 : decode prog_4_method_12_code 39 = .ok (.iconst 1, 1) := by decide +kernel
theorem d_4_12_40 : decode prog_4_method_12_code 40 = .ok (.iload_n 1, 1) := by decide +kernel
theorem d_4_12_41 : decode prog_4_method_12_code 41 = .ok (.invokevirtual 39, 3) := by decide +kernel
theorem d_4_12_44 : decode prog_4_method_12_code 44 = .ok (.aload_n 0, 1) := by decide +kernel
theorem d_4_12_45 : decode prog_4_method_12_code 45 = .ok (.getfield 9, 3) := by decide +kernel
theorem d_4_12_48 : decode prog_4_method_12_code 48 = .ok (.invokevirtual 23, 3) := by decide +kernel
theorem d_4_12_51 : decode prog_4_method_12_code 51 = .ok (.istore_n 1, 1) := by decide +kernel
theorem d_4_12_52 : decode prog_4_method_12_code 52 = .ok (.aload_n 0, 1) := by decide +kernel
theorem d_4_12_53 : decode prog_4_method_12_code 53 = .ok (.getfield 19, 3) := by decide +kernel
theorem d_4_12_56 : decode prog_4_method_12_code 56 = .ok (.aload_n 0, 1) := by decide +kernel
theorem d_4_12_57 : decode prog_4_method_12_code 57 = .ok (.invokevirtual 93, 3) := by decide +kernel
theorem d_4_12_60 : decode prog_4_method_12_code 60 = .ok (.iconst 1, 1) := by decide +kernel
theorem d_4_12_61 : decode prog_4_method_12_code 61 = .ok (.iload_n 1, 1) := by decide +kernel
theorem d_4_12_62 : decode prog_4_method_12_code 62 = .ok (.invokevirtual 39, 3) := by decide +kernel
theorem d_4_12_65 : decode prog_4_method_12_code 65 = .ok (.iconst 1, 1) := by decide +kernel
theorem d_4_12_66 : decode prog_4_method_12_code 66 = .ok (.istore_n 2, 1) := by decide +kernel
theorem d_4_12_67 : decode prog_4_method_12_code 67 = .ok (.iinc 3 1, 3) := by decide +kernel
theorem d_4_12_70 : decode prog_4_method_12_code 70 = .ok (.goto (-55), 3) := by decide +kernel
theorem d_4_12_73 : decode prog_4_method_12_code 73 = .ok (.iload_n 2, 1) := by decide +kernel
theorem d_4_12_74 : decode prog_4_method_12_code 74 = .ok (.ireturn, 1) := by decide +kernel
theorem d_4_13_0 : decode prog_4_method_13_code 0 = .ok (.aload_n 0, 1) := by decide +kernel
theorem d_4_13_1 : decode prog_4_method_13_code 1 = .ok (.getfield 9, 3) := by decide +kernel
theorem d_4_13_4 : decode prog_4_method_13_code 4 = .ok (.invokevirtual 74, 3) := by decide +kernel
theorem d_4_13_7 : decode prog_4_method_13_code 7 = .ok (.tableswitch 102 20 34 #[82, 82, 102, 102, 102, 102, 102, 97, 73, 102, 102, 102, 102, 102, 91], 73) := by decide +kernel
theorem d_4_13_80 : decode prog_4_method_13_code 80 = .ok (.aload_n 0, 1) := by decide +kernel
theorem d_4_13_81 : decode prog_4_method_13_code 81 = .ok (.getfield 9, 3) := by decide +kernel
theorem d_4_13_84 : decode prog_4_method_13_code 84 = .ok (.invokevirtual 77, 3) := by decide +kernel
theorem d_4_13_87 : decode prog_4_method_13_code 87 = .ok (.iconst 1, 1) := by decide +kernel
theorem d_4_13_88 : decode prog_4_method_13_code 88 = .ok (.ireturn, 1) := by decide +kernel
theorem d_4_13_89 : decode prog_4_method_13_code 89 = .ok (.aload_n 0, 1) := by decide +kernel
theorem d_4_13_90 : decode prog_4_method_13_code 90 = .ok (.getfield 9, 3) := by decide +kernel
theorem d_4_13_93 : decode prog_4_method_13_code 93 = .ok (.invokevirtual 77, 3) := by decide +kernel
theorem d_4_13_96 : decode prog_4_method_13_code 96 = .ok (.iconst 2, 1) := by decide +kernel
theorem d_4_13_97 : decode prog_4_method_13_code 97 = .ok (.ireturn, 1) := by decide +kernel
theorem d_4_13_98 : decode prog_4_method_13_code 98 = .ok (.aload_n 0, 1) := by decide +kernel
theorem d_4_13_99 : decode prog_4_method_13_code 99 = .ok (.iconst 0, 1) := by decide +kernel
theorem d_4_13_100 : decode prog_4_method_13_code 100 = .ok (.invokevirtual 96, 3) := by decide +kernel
theorem d_4_13_103 : decode prog_4_method_13_code 103 = .ok (.ireturn, 1) := by decide +kernel
theorem d_4_13_104 : decode prog_4_method_13_code 104 = .ok (.aload_n 0, 1) := by decide +kernel
theorem d_4_13_105 : decode prog_4_method_13_code 105 = .ok (.invokevirtual 99, 3) := by decide +kernel
theorem d_4_13_108 : decode prog_4_method_13_code 108 = .ok (.ireturn, 1) := by decide +kernel
theorem d_4_13_109 : decode prog_4_method_13_code 109 = .ok (.aload_n 0, 1) := by decide +kernel
theorem d_4_13_110 : decode prog_4_method_13_code 110 = .ok (.getfield 9, 3) := by decide +kernel
theorem d_4_13_113 : decode prog_4_method_13_code 113 = .ok (.invokevirtual 102, 3) := by decide +kernel
theorem d_4_13_116 : decode prog_4_method_13_code 116 = .ok (.iconst 0, 1) := by decide +kernel
theorem d_4_13_117 : decode prog_4_method_13_code 117 = .ok (.ireturn, 1) := by decide +kernel
theorem d_4_14_0 : decode prog_4_method_14_code 0 = .ok (.aload_n 0, 1) := by decide +kernel
theorem d_4_14_1 : decode prog_4_method_14_code 1 = .ok (.getfield 9, 3) := by decide +kernel
theorem d_4_14_4 : decode prog_4_method_14_code 4 = .ok (.bipush 34, 2) := by decide +kernel
theorem d_4_14_6 : decode prog_4_method_14_code 6 = .ok (.invokevirtual 45, 3) := by decide +kernel
theorem d_4_14_9 : decode prog_4_method_14_code 9 = .ok (.aload_n 0, 1) := by decide +kernel
theorem d_4_14_10 : decode prog_4_method_14_code 10 = .ok (.iload_n 1, 1) := by decide +kernel
theorem d_4_14_11 : decode prog_4_method_14_code 11 = .ok (.invokevirtual 49, 3) := by decide +kernel
theorem d_4_14_14 : decode prog_4_method_14_code 14 = .ok (.istore_n 2, 1) := by decide +kernel
theorem d_4_14_15 : decode prog_4_method_14_code 15 = .ok (.aload_n 0, 1) := by decide +kernel
theorem d_4_14_16 : decode prog_4_method_14_code 16 = .ok (.getfield 9, 3) := by decide +kernel
theorem d_4_14_19 : decode prog_4_method_14_code 19 = .ok (.bipush 35, 2) := by decide +kernel
theorem d_4_14_21 : decode prog_4_method_14_code 21 = .ok (.invokevirtual 105, 3) := by decide +kernel
theorem d_4_14_24 : decode prog_4_method_14_code 24 = .ok (.iload_n 2, 1) := by decide +kernel
theorem d_4_14_25 : decode prog_4_method_14_code 25 = .ok (.ireturn, 1) := by decide +kernel
theorem d_4_15_0 : decode prog_4_method_15_code 0 = .ok (.aload_n 0, 1) := by decide +kernel
theorem d_4_15_1 : decode prog_4_method_15_code 1 = .ok (.getfield 9, 3) := by decide +kernel
theorem d_4_15_4 : decode prog_4_method_15_code 4 = .ok (.invokevirtual 23, 3) := by decide +kernel
