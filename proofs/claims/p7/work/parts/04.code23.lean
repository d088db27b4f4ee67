theorem d_8_25_25 : decode prog_8_method_25_code 25 = .ok (.aload_n 0, 1) := by decide +kernel
theorem d_8_25_26 : decode prog_8_method_25_code 26 = .ok (.getfield 29, 3) := by decide +kernel
theorem d_8_25_29 : decode prog_8_method_25_code 29 = .ok (.iaload, 1) := by decide +kernel
theorem d_8_25_30 : decode prog_8_method_25_code 30 = .ok (.putfield 35, 3) := by decide +kernel
theorem d_8_25_33 : decode prog_8_method_25_code 33 = .ok (.return_, 1) := by decide +kernel
theorem d_8_26_0 : decode prog_8_method_26_code 0 = .ok (.aload_n 0, 1) := by decide +kernel
theorem d_8_26_1 : decode prog_8_method_26_code 1 = .ok (.getfield 32, 3) := by decide +kernel
theorem d_8_26_4 : decode prog_8_method_26_code 4 = .ok (.bipush 20, 2) := by decide +kernel
theorem d_8_26_6 : decode prog_8_method_26_code 6 = .ok (.if_icmp .lt 7, 3) := by decide +kernel
theorem d_8_26_9 : decode prog_8_method_26_code 9 = .ok (.aload_n 0, 1) := by decide +kernel
theorem d_8_26_10 : decode prog_8_method_26_code 10 = .ok (.invokevirtual 112, 3) := by decide +kernel
theorem d_8_26_13 : decode prog_8_method_26_code 13 = .ok (.aload_n 0, 1) := by decide +kernel
theorem d_8_26_14 : decode prog_8_method_26_code 14 = .ok (.iload_n 1, 1) := by decide +kernel
theorem d_8_26_15 : decode prog_8_method_26_code 15 = .ok (.invokevirtual 115, 3) := by decide +kernel
theorem d_8_26_18 : decode prog_8_method_26_code 18 = .ok (.aload_n 0, 1) := by decide +kernel
theorem d_8_26_19 : decode prog_8_method_26_code 19 = .ok (.dup, 1) := by decide +kernel
theorem d_8_26_20 : decode prog_8_method_26_code 20 = .ok (.getfield 32, 3) := by decide +kernel
theorem d_8_26_23 : decode prog_8_method_26_code 23 = .ok (.iconst 1, 1) := by decide +kernel
theorem d_8_26_24 : decode prog_8_method_26_code 24 = .ok (.iadd, 1) := by decide +kernel
theorem d_8_26_25 : decode prog_8_method_26_code 25 = .ok (.putfield 32, 3) := by decide +kernel
theorem d_8_26_28 : decode prog_8_method_26_code 28 = .ok (.return_, 1) := by decide +kernel
theorem d_8_27_0 : decode prog_8_method_27_code 0 = .ok (.aload_n 0, 1) := by decide +kernel
theorem d_8_27_1 : decode prog_8_method_27_code 1 = .ok (.dup, 1) := by decide +kernel
theorem d_8_27_2 : decode prog_8_method_27_code 2 = .ok (.getfield 32, 3) := by decide +kernel
theorem d_8_27_5 : decode prog_8_method_27_code 5 = .ok (.iconst 1, 1) := by decide +kernel
theorem d_8_27_6 : decode prog_8_method_27_code 6 = .ok (.isub, 1) := by decide +kernel
theorem d_8_27_7 : decode prog_8_method_27_code 7 = .ok (.putfield 32, 3) := by decide +kernel
theorem d_8_27_10 : decode prog_8_method_27_code 10 = .ok (.return_, 1) := by decide +kernel
theorem d_8_28_0 : decode prog_8_method_28_code 0 = .ok (.aload_n 0, 1) := by decide +kernel
theorem d_8_28_1 : decode prog_8_method_28_code 1 = .ok (.iload_n 1, 1) := by decide +kernel
theorem d_8_28_2 : decode prog_8_method_28_code 2 = .ok (.invokevirtual 115, 3) := by decide +kernel
theorem d_8_28_5 : decode prog_8_method_28_code 5 = .ok (.aload_n 0, 1) := by decide +kernel
theorem d_8_28_6 : decode prog_8_method_28_code 6 = .ok (.dup, 1) := by decide +kernel
theorem d_8_28_7 : decode prog_8_method_28_code 7 = .ok (.getfield 32, 3) := by decide +kernel
theorem d_8_28_10 : decode prog_8_method_28_code 10 = .ok (.iconst 1, 1) := by decide +kernel
theorem d_8_28_11 : decode prog_8_method_28_code 11 = .ok (.isub, 1) := by decide +kernel
theorem d_8_28_12 : decode prog_8_method_28_code 12 = .ok (.putfield 32, 3) := by decide +kernel
theorem d_8_28_15 : decode prog_8_method_28_code 15 = .ok (.return_, 1) := by decide +kernel
theorem d_8_29_0 : decode prog_8_method_29_code 0 = .ok (.aload_n 0, 1) := by decide +kernel
theorem d_8_29_1 : decode prog_8_method_29_code 1 = .ok (.bipush 27, 2) := by decide +kernel
theorem d_8_29_3 : decode prog_8_method_29_code 3 = .ok (.invokevirtual 119, 3) := by decide +kernel
theorem d_8_29_6 : decode prog_8_method_29_code 6 = .ok (.ifCond .ne 5, 3) := by decide +kernel
theorem d_8_29_9 : decode prog_8_method_29_code 9 = .ok (.iconst 0, 1) := by decide +kernel
theorem d_8_29_10 : decode prog_8_method_29_code 10 = .ok (.ireturn, 1) := by decide +kernel
theorem d_8_29_11 : decode prog_8_method_29_code 11 = .ok (.aload_n 0, 1) := by decide +kernel
theorem d_8_29_12 : decode prog_8_method_29_code 12 = .ok (.invokevirtual 122, 3) := by decide +kernel
theorem d_8_29_15 : decode prog_8_method_29_code 15 = .ok (.bipush 36, 2) := by decide +kernel
theorem d_8_29_17 : decode prog_8_method_29_code 17 = .ok (.if_icmp .eq 18, 3) := by decide +kernel
theorem d_8_29_20 : decode prog_8_method_29_code 20 = .ok (.aload_n 0, 1) := by decide +kernel
theorem d_8_29_21 : decode prog_8_method_29_code 21 = .ok (.invokevirtual 122, 3) := by decide +kernel
theorem d_8_29_24 : decode prog_8_method_29_code 24 = .ok (.bipush 47, 2) := by decide +kernel
theorem d_8_29_26 : decode prog_8_method_29_code 26 = .ok (.if_icmp .ne 7, 3) := by decide +kernel
theorem d_8_29_29 : decode prog_8_method_29_code 29 = .ok (.iconst 1, 1) := by decide +kernel
theorem d_8_29_30 : decode prog_8_method_29_code 30 = .ok (.goto 4, 3) := by decide +kernel
theorem d_8_29_33 : decode prog_8_method_29_code 33 = .ok (.iconst 0, 1) := by decide +kernel
theorem d_8_29_34 : decode prog_8_method_29_code 34 = .ok (.ireturn, 1) := by decide +kernel
theorem d_8_29_35 : decode prog_8_method_29_code 35 = .ok (.iconst 0, 1) := by decide +kernel
theorem d_8_29_36 : decode prog_8_method_29_code 36 = .ok (.istore_n 1, 1) := by decide +kernel
theorem d_8_29_37 : decode prog_8_method_29_code 37 = .ok (.aload_n 0, 1) := by decide +kernel
theorem d_8_29_38 : decode prog_8_method_29_code 38 = .ok (.getfield 29, 3) := by decide +kernel
theorem d_8_29_41 : decode prog_8_method_29_code 41 = .ok (.iconst 1, 1) := by decide +kernel
theorem d_8_29_42 : decode prog_8_method_29_code 42 = .ok (.iadd, 1) := by decide +kernel
theorem d_8_29_43 : decode prog_8_method_29_code 43 = .ok (.istore_n 2, 1) := by decide +kernel
theorem d_8_29_44 : decode prog_8_method_29_code 44 = .ok (.iload_n 2, 1) := by decide +kernel
theorem d_8_29_45 : decode prog_8_method_29_code 45 = .ok (.aload_n 0, 1) := by decide +kernel
theorem d_8_29_46 : decode prog_8_method_29_code 46 = .ok (.getfield 25, 3) := by decide +kernel
theorem d_8_29_49 : decode prog_8_method_29_code 49 = .ok (.iconst 1, 1) := by decide +kernel
theorem d_8_29_50 : decode prog_8_method_29_code 50 = .ok (.isub, 1) := by decide +kernel
theorem d_8_29_51 : decode prog_8_method_29_code 51 = .ok (.if_icmp .ge 63, 3) := by decide +kernel
theorem d_8_29_54 : decode prog_8_method_29_code 54 = .ok (.aload_n 0, 1) := by decide +kernel
theorem d_8_29_55 : decode prog_8_method_29_code 55 = .ok (.getfield 9, 3) := by decide +kernel
theorem d_8_29_58 : decode prog_8_method_29_code 58 = .ok (.iload_n 2, 1) := by decide +kernel
theorem d_8_29_59 : decode prog_8_method_29_code 59 = .ok (.iaload, 1) := by decide +kernel
theorem d_8_29_60 : decode prog_8_method_29_code 60 = .ok (.bipush 36, 2) := by decide +kernel
theorem d_8_29_62 : decode prog_8_method_29_code 62 = .ok (.if_icmp .ne 9, 3) := by decide +kernel
theorem d_8_29_65 : decode prog_8_method_29_code 65 = .ok (.iinc 1 1, 3) := by decide +kernel
theorem d_8_29_68 : decode prog_8_method_29_code 68 = .ok (.goto 17, 3) := by decide +kernel
theorem d_8_29_71 : decode prog_8_method_29_code 71 = .ok (.aload_n 0, 1) := by decide +kernel
theorem d_8_29_72 : decode prog_8_method_29_code 72 = .ok (.getfield 9, 3) := by decide +kernel
theorem d_8_29_75 : decode prog_8_method_29_code 75 = .ok (.iload_n 2, 1) := by decide +kernel
theorem d_8_29_76 : decode prog_8_method_29_code 76 = .ok (.iaload, 1) := by decide +kernel
theorem d_8_29_77 : decode prog_8_method_29_code 77 = .ok (.bipush 37, 2) := by decide +kernel
theorem d_8_29_79 : decode prog_8_method_29_code 79 = .ok (.if_icmp .ne 6, 3) := by decide +kernel
theorem d_8_29_82 : decode prog_8_method_29_code 82 = .ok (.iinc 1 (-1), 3) := by decide +kernel
theorem d_8_29_85 : decode prog_8_method_29_code 85 = .ok (.iload_n 1, 1) := by decide +kernel
theorem d_8_29_86 : decode prog_8_method_29_code 86 = .ok (.ifCond .ne 22, 3) := by decide +kernel
theorem d_8_29_89 : decode prog_8_method_29_code 89 = .ok (.aload_n 0, 1) := by decide +kernel
theorem d_8_29_90 : decode prog_8_method_29_code 90 = .ok (.getfield 9, 3) := by decide +kernel
theorem d_8_29_93 : decode prog_8_method_29_code 93 = .ok (.iload_n 2, 1) := by decide +kernel
theorem d_8_29_94 : decode prog_8_method_29_code 94 = .ok (.iconst 1, 1) := by decide +kernel
theorem d_8_29_95 : decode prog_8_method_29_code 95 = .ok (.iadd, 1) := by decide +kernel
theorem d_8_29_96 : decode prog_8_method_29_code 96 = .ok (.iaload, 1) := by decide +kernel
theorem d_8_29_97 : decode prog_8_method_29_code 97 = .ok (.bipush 47, 2) := by decide +kernel
theorem d_8_29_99 : decode prog_8_method_29_code 99 = .ok (.if_icmp .ne 7, 3) := by decide +kernel
theorem d_8_29_102 : decode prog_8_method_29_code 102 = .ok (.iconst 1, 1) := by decide +kernel
theorem d_8_29_103 : decode prog_8_method_29_code 103 = .ok (.goto 4, 3) := by decide +kernel
theorem d_8_29_106 : decode prog_8_method_29_code 106 = .ok (.iconst 0, 1) := by decide +kernel
theorem d_8_29_107 : decode prog_8_method_29_code 107 = .ok (.ireturn, 1) := by decide +kernel
theorem d_8_29_108 : decode prog_8_method_29_code 108 = .ok (.iinc 2 1, 3) := by decide +kernel
theorem d_8_29_111 : decode prog_8_method_29_code 111 = .ok (.goto (-67), 3) := by decide +kernel
theorem d_8_29_114 : decode prog_8_method_29_code 114 = .ok (.iconst 0, 1) := by decide +kernel
theorem d_8_29_115 : decode prog_8_method_29_code 115 = .ok (.ireturn, 1) := by decide +kernel
theorem d_8_2_0 : decode prog_8_method_2_code 0 = .ok (.iconst 1, 1) := by decide +kernel
theorem d_8_2_1 : decode prog_8_method_2_code 1 = .ok (.istore_n 1, 1) := by decide +kernel
theorem d_8_2_2 : decode prog_8_method_2_code 2 = .ok (.iconst 0, 1) := by decide +kernel
theorem d_8_2_3 : decode prog_8_method_2_code 3 = .ok (.istore_n 2, 1) := by decide +kernel
theorem d_8_2_4 : decode prog_8_method_2_code 4 = .ok (.iload_n 2, 1) := by decide +kernel
theorem d_8_2_5 : decode prog_8_method_2_code 5 = .ok (.ldc 41, 2) := by decide +kernel
theorem d_8_2_7 : decode prog_8_method_2_code 7 = .ok (.invokevirtual 43, 3) := by decide +kernel
theorem d_8_2_10 : decode prog_8_method_2_code 10 = .ok (.if_icmp .ge 50, 3) := by decide +kernel
theorem d_8_2_13 : decode prog_8_method_2_code 13 = .ok (.ldc 41, 2) := by decide +kernel
theorem d_8_2_15 : decode prog_8_method_2_code 15 = .ok (.iload_n 2, 1) := by decide +kernel
theorem d_8_2_16 : decode prog_8_method_2_code 16 = .ok (.invokevirtual 49, 3) := by decide +kernel
theorem d_8_2_19 : decode prog_8_method_2_code 19 = .ok (.istore_n 3, 1) := by decide +kernel
theorem d_8_2_20 : decode prog_8_method_2_code 20 = .ok (.iload_n 3, 1) := by decide +kernel
theorem d_8_2_21 : decode prog_8_method_2_code 21 = .ok (.bipush 32, 2) := by decide +kernel
theorem d_8_2_23 : decode prog_8_method_2_code 23 = .ok (.if_icmp .ne 9, 3) := by decide +kernel
theorem d_8_2_26 : decode prog_8_method_2_code 26 = .ok (.iinc 1 1, 3) := by decide +kernel
theorem d_8_2_29 : decode prog_8_method_2_code 29 = .ok (.goto 25, 3) := by decide +kernel
theorem d_8_2_32 : decode prog_8_method_2_code 32 = .ok (.iload_n 1, 1) := by decide +kernel
theorem d_8_2_33 : decode prog_8_method_2_code 33 = .ok (.bipush 26, 2) := by decide +kernel
theorem d_8_2_35 : decode prog_8_method_2_code 35 = .ok (.if_icmp .gt 19, 3) := by decide +kernel
theorem d_8_2_38 : decode prog_8_method_2_code 38 = .ok (.aload_n 0, 1) := by decide +kernel
theorem d_8_2_39 : decode prog_8_method_2_code 39 = .ok (.getfield 22, 3) := by decide +kernel
theorem d_8_2_42 : decode prog_8_method_2_code 42 = .ok (.iload_n 1, 1) := by decide +kernel
theorem d_8_2_43 : decode prog_8_method_2_code 43 = .ok (.aload_n 0, 1) := by decide +kernel
theorem d_8_2_44 : decode prog_8_method_2_code 44 = .ok (.getfield 22, 3) := by decide +kernel
theorem d_8_2_47 : decode prog_8_method_2_code 47 = .ok (.iload_n 1, 1) := by decide +kernel
theorem d_8_2_48 : decode prog_8_method_2_code 48 = .ok (.laload, 1) := by decide +kernel
theorem d_8_2_49 : decode prog_8_method_2_code 49 = .ok (.iload_n 3, 1) := by decide +kernel
theorem d_8_2_50 : decode prog_8_method_2_code 50 = .ok (.invokestatic 53, 3) := by decide +kernel
theorem d_8_2_53 : decode prog_8_method_2_code 53 = .ok (.lastore, 1) := by decide +kernel
theorem d_8_2_54 : decode prog_8_method_2_code 54 = .ok (.iinc 2 1, 3) := by decide +kernel
theorem d_8_2_57 : decode prog_8_method_2_code 57 = .ok (.goto (-53), 3) := by decide +kernel
theorem d_8_2_60 : decode prog_8_method_2_code 60 = .ok (.return_, 1) := by decide +kernel
theorem d_8_3_0 : decode prog_8_method_3_code 0 = .ok (.aload_n 0, 1) := by decide +kernel
theorem d_8_3_1 : decode prog_8_method_3_code 1 = .ok (.iconst 0, 1) := by decide +kernel
theorem d_8_3_2 : decode prog_8_method_3_code 2 = .ok (.putfield 25, 3) := by decide +kernel
theorem d_8_3_5 : decode prog_8_method_3_code 5 = .ok (.iconst 0, 1) := by decide +kernel
theorem d_8_3_6 : decode prog_8_method_3_code 6 = .ok (.istore_n 3, 1) := by decide +kernel
theorem d_8_3_7 : decode prog_8_method_3_code 7 = .ok (.iconst 0, 1) := by decide +kernel
theorem d_8_3_8 : decode prog_8_method_3_code 8 = .ok (.istore 4, 2) := by decide +kernel
theorem d_8_3_10 : decode prog_8_method_3_code 10 = .ok (.iload 4, 2) := by decide +kernel
theorem d_8_3_12 : decode prog_8_method_3_code 12 = .ok (.iload_n 2, 1) := by decide +kernel
theorem d_8_3_13 : decode prog_8_method_3_code 13 = .ok (.if_icmp .ge 22, 3) := by decide +kernel
theorem d_8_3_16 : decode prog_8_method_3_code 16 = .ok (.iload_n 3, 1) := by decide +kernel
theorem d_8_3_17 : decode prog_8_method_3_code 17 = .ok (.iload_n 2, 1) := by decide +kernel
theorem d_8_3_18 : decode prog_8_method_3_code 18 = .ok (.if_icmp .ge 17, 3) := by decide +kernel
theorem d_8_3_21 : decode prog_8_method_3_code 21 = .ok (.aload_n 0, 1) := by decide +kernel
theorem d_8_3_22 : decode prog_8_method_3_code 22 = .ok (.aload_n 1, 1) := by decide +kernel
theorem d_8_3_23 : decode prog_8_method_3_code 23 = .ok (.iload_n 2, 1) := by decide +kernel
theorem d_8_3_24 : decode prog_8_method_3_code 24 = .ok (.iload_n 3, 1) := by decide +kernel
theorem d_8_3_25 : decode prog_8_method_3_code 25 = .ok (.invokevirtual 57, 3) := by decide +kernel
theorem d_8_3_28 : decode prog_8_method_3_code 28 = .ok (.istore_n 3, 1) := by decide +kernel
theorem d_8_3_29 : decode prog_8_method_3_code 29 = .ok (.iinc 4 1, 3) := by decide +kernel
theorem d_8_3_32 : decode prog_8_method_3_code 32 = .ok (.goto (-22), 3) := by decide +kernel
theorem d_8_3_35 : decode prog_8_method_3_code 35 = .ok (.aload_n 0, 1) := by decide +kernel
theorem d_8_3_36 : decode prog_8_method_3_code 36 = .ok (.iconst 0, 1) := by decide +kernel
theorem d_8_3_37 : decode prog_8_method_3_code 37 = .ok (.iload_n 2, 1) := by decide +kernel
theorem d_8_3_38 : decode prog_8_method_3_code 38 = .ok (.lconst 0, 1) := by decide +kernel
theorem d_8_3_39 : decode prog_8_method_3_code 39 = .ok (.invokevirtual 61, 3) := by decide +kernel
theorem d_8_3_42 : decode prog_8_method_3_code 42 = .ok (.aload_n 0, 1) := by decide +kernel
theorem d_8_3_43 : decode prog_8_method_3_code 43 = .ok (.bipush (-2), 2) := by decide +kernel
theorem d_8_3_45 : decode prog_8_method_3_code 45 = .ok (.putfield 35, 3) := by decide +kernel
theorem d_8_3_48 : decode prog_8_method_3_code 48 = .ok (.aload_n 0, 1) := by decide +kernel
theorem d_8_3_49 : decode prog_8_method_3_code 49 = .ok (.invokevirtual 65, 3) := by decide +kernel
theorem d_8_3_52 : decode prog_8_method_3_code 52 = .ok (.return_, 1) := by decide +kernel
theorem d_8_4_0 : decode prog_8_method_4_code 0 = .ok (.aload_n 1, 1) := by decide +kernel
theorem d_8_4_1 : decode prog_8_method_4_code 1 = .ok (.iload_n 3, 1) := by decide +kernel
theorem d_8_4_2 : decode prog_8_method_4_code 2 = .ok (.baload, 1) := by decide +kernel
theorem d_8_4_3 : decode prog_8_method_4_code 3 = .ok (.istore 4, 2) := by decide +kernel
theorem d_8_4_5 : decode prog_8_method_4_code 5 = .ok (.iload 4, 2) := by decide +kernel
theorem d_8_4_7 : decode prog_8_method_4_code 7 = .ok (.bipush 32, 2) := by decide +kernel
theorem d_8_4_9 : decode prog_8_method_4_code 9 = .ok (.if_icmp .eq 10, 3) := by decide +kernel
theorem d_8_4_12 : decode prog_8_method_4_code 12 = .ok (.iload 4, 2) := by decide +kernel
theorem d_8_4_14 : decode prog_8_method_4_code 14 = .ok (.bipush 10, 2) := by decide +kernel
theorem d_8_4_16 : decode prog_8_method_4_code 16 = .ok (.if_icmp .ne 7, 3) := by decide +kernel
theorem d_8_4_19 : decode prog_8_method_4_code 19 = .ok (.iload_n 3, 1) := by decide +kernel
theorem d_8_4_20 : decode prog_8_method_4_code 20 = .ok (.iconst 1, 1) := by decide +kernel
theorem d_8_4_21 : decode prog_8_method_4_code 21 = .ok (.iadd, 1) := by decide +kernel
theorem d_8_4_22 : decode prog_8_method_4_code 22 = .ok (.ireturn, 1) := by decide +kernel
theorem d_8_4_23 : decode prog_8_method_4_code 23 = .ok (.iload 4, 2) := by decide +kernel
theorem d_8_4_25 : decode prog_8_method_4_code 25 = .ok (.invokestatic 68, 3) := by decide +kernel
theorem d_8_4_28 : decode prog_8_method_4_code 28 = .ok (.ifCond .eq 11, 3) := by decide +kernel
theorem d_8_4_31 : decode prog_8_method_4_code 31 = .ok (.aload_n 0, 1) := by decide +kernel
theorem d_8_4_32 : decode prog_8_method_4_code 32 = .ok (.aload_n 1, 1) := by decide +kernel
theorem d_8_4_33 : decode prog_8_method_4_code 33 = .ok (.iload_n 2, 1) := by decide +kernel
theorem d_8_4_34 : decode prog_8_method_4_code 34 = .ok (.iload_n 3, 1) := by decide +kernel
theorem d_8_4_35 : decode prog_8_method_4_code 35 = .ok (.invokevirtual 72, 3) := by decide +kernel
theorem d_8_4_38 : decode prog_8_method_4_code 38 = .ok (.ireturn, 1) := by decide +kernel
theorem d_8_4_39 : decode prog_8_method_4_code 39 = .ok (.iload 4, 2) := by decide +kernel
theorem d_8_4_41 : decode prog_8_method_4_code 41 = .ok (.invokestatic 75, 3) := by decide +kernel
theorem d_8_4_44 : decode prog_8_method_4_code 44 = .ok (.ifCond .eq 11, 3) := by decide +kernel
theorem d_8_4_47 : decode prog_8_method_4_code 47 = .ok (.aload_n 0, 1) := by decide +kernel
theorem d_8_4_48 : decode prog_8_method_4_code 48 = .ok (.aload_n 1, 1) := by decide +kernel
theorem d_8_4_49 : decode prog_8_method_4_code 49 = .ok (.iload_n 2, 1) := by decide +kernel
theorem d_8_4_50 : decode prog_8_method_4_code 50 = .ok (.iload_n 3, 1) := by decide +kernel
theorem d_8_4_51 : decode prog_8_method_4_code 51 = .ok (.invokevirtual 78, 3) := by decide +kernel
theorem d_8_4_54 : decode prog_8_method_4_code 54 = .ok (.ireturn, 1) := by decide +kernel
theorem d_8_4_55 : decode prog_8_method_4_code 55 = .ok (.aload_n 0, 1) := by decide +kernel
theorem d_8_4_56 : decode prog_8_method_4_code 56 = .ok (.aload_n 1, 1) := by decide +kernel
theorem d_8_4_57 : decode prog_8_method_4_code 57 = .ok (.iload_n 2, 1) := by decide +kernel
theorem d_8_4_58 : decode prog_8_method_4_code 58 = .ok (.iload_n 3, 1) := by decide +kernel
theorem d_8_4_59 : decode prog_8_method_4_code 59 = .ok (.invokevirtual 81, 3) := by decide +kernel
theorem d_8_4_62 : decode prog_8_method_4_code 62 = .ok (.ireturn, 1) := by decide +kernel
theorem d_8_5_0 : decode prog_8_method_5_code 0 = .ok (.lconst 0, 1) := by decide +kernel
theorem d_8_5_1 : decode prog_8_method_5_code 1 = .ok (.lstore 4, 2) := by decide +kernel
theorem d_8_5_3 : decode prog_8_method_5_code 3 = .ok (.iload_n 3, 1) := by decide +kernel
theorem d_8_5_4 : decode prog_8_method_5_code 4 = .ok (.istore 6, 2) := by decide +kernel
theorem d_8_5_6 : decode prog_8_method_5_code 6 = .ok (.iload 6, 2) := by decide +kernel
theorem d_8_5_8 : decode prog_8_method_5_code 8 = .ok (.iload_n 2, 1) := by decide +kernel
theorem d_8_5_9 : decode prog_8_method_5_code 9 = .ok (.if_icmp .ge 39, 3) := by decide +kernel
theorem d_8_5_12 : decode prog_8_method_5_code 12 = .ok (.aload_n 1, 1) := by decide +kernel
theorem d_8_5_13 : decode prog_8_method_5_code 13 = .ok (.iload 6, 2) := by decide +kernel
theorem d_8_5_15 : decode prog_8_method_5_code 15 = .ok (.baload, 1) := by decide +kernel
theorem d_8_5_16 : decode prog_8_method_5_code 16 = .ok (.invokestatic 84, 3) := by decide +kernel
theorem d_8_5_19 : decode prog_8_method_5_code 19 = .ok (.ifCond .eq 29, 3) := by decide +kernel
theorem d_8_5_22 : decode prog_8_method_5_code 22 = .ok (.iload 6, 2) := by decide +kernel
theorem d_8_5_24 : decode prog_8_method_5_code 24 = .ok (.iload_n 3, 1) := by decide +kernel
theorem d_8_5_25 : decode prog_8_method_5_code 25 = .ok (.isub, 1) := by decide +kernel
theorem d_8_5_26 : decode prog_8_method_5_code 26 = .ok (.bipush 9, 2) := by decide +kernel
theorem d_8_5_28 : decode prog_8_method_5_code 28 = .ok (.if_icmp .ge 14, 3) := by decide +kernel
theorem d_8_5_31 : decode prog_8_method_5_code 31 = .ok (.lload 4, 2) := by decide +kernel
theorem d_8_5_33 : decode prog_8_method_5_code 33 = .ok (.aload_n 1, 1) := by decide +kernel
theorem d_8_5_34 : decode prog_8_method_5_code 34 = .ok (.iload 6, 2) := by decide +kernel
theorem d_8_5_36 : decode prog_8_method_5_code 36 = .ok (.baload, 1) := by decide +kernel
theorem d_8_5_37 : decode prog_8_method_5_code 37 = .ok (.invokestatic 53, 3) := by decide +kernel
theorem d_8_5_40 : decode prog_8_method_5_code 40 = .ok (.lstore 4, 2) := by decide +kernel
theorem d_8_5_42 : decode prog_8_method_5_code 42 = .ok (.iinc 6 1, 3) := by decide +kernel
theorem d_8_5_45 : decode prog_8_method_5_code 45 = .ok (.goto (-39), 3) := by decide +kernel
theorem d_8_5_48 : decode prog_8_method_5_code 48 = .ok (.aload_n 0, 1) := by decide +kernel
theorem d_8_5_49 : decode prog_8_method_5_code 49 = .ok (.aload_n 0, 1) := by decide +kernel
theorem d_8_5_50 : decode prog_8_method_5_code 50 = .ok (.lload 4, 2) := by decide +kernel
theorem d_8_5_52 : decode prog_8_method_5_code 52 = .ok (.iload 6, 2) := by decide +kernel
theorem d_8_5_54 : decode prog_8_method_5_code 54 = .ok (.iload_n 3, 1) := by decide +kernel
theorem d_8_5_55 : decode prog_8_method_5_code 55 = .ok (.isub, 1) := by decide +kernel
theorem d_8_5_56 : decode prog_8_method_5_code 56 = .ok (.invokevirtual 87, 3) := by decide +kernel
theorem d_8_5_59 : decode prog_8_method_5_code 59 = .ok (.iload_n 3, 1) := by decide +kernel
theorem d_8_5_60 : decode prog_8_method_5_code 60 = .ok (.lload 4, 2) := by decide +kernel
theorem d_8_5_62 : decode prog_8_method_5_code 62 = .ok (.invokevirtual 61, 3) := by decide +kernel
theorem d_8_5_65 : decode prog_8_method_5_code 65 = .ok (.iload 6, 2) := by decide +kernel
theorem d_8_5_67 : decode prog_8_method_5_code 67 = .ok (.ireturn, 1) := by decide +kernel
theorem d_8_6_0 : decode prog_8_method_6_code 0 = .ok (.iload_n 3, 1) := by decide +kernel
theorem d_8_6_1 : decode prog_8_method_6_code 1 = .ok (.bipush 9, 2) := by decide +kernel
theorem d_8_6_3 : decode prog_8_method_6_code 3 = .ok (.if_icmp .le 5, 3) := by decide +kernel
theorem d_8_6_6 : decode prog_8_method_6_code 6 = .ok (.iconst (-1), 1) := by decide +kernel
theorem d_8_6_7 : decode prog_8_method_6_code 7 = .ok (.ireturn, 1) := by decide +kernel
theorem d_8_6_8 : decode prog_8_method_6_code 8 = .ok (.iconst 1, 1) := by decide +kernel
theorem d_8_6_9 : decode prog_8_method_6_code 9 = .ok (.istore 4, 2) := by decide +kernel
theorem d_8_6_11 : decode prog_8_method_6_code 11 = .ok (.iload 4, 2) := by decide +kernel
theorem d_8_6_13 : decode prog_8_method_6_code 13 = .ok (.bipush 26, 2) := by decide +kernel
theorem d_8_6_15 : decode prog_8_method_6_code 15 = .ok (.if_icmp .gt 24, 3) := by decide +kernel
theorem d_8_6_18 : decode prog_8_method_6_code 18 = .ok (.aload_n 0, 1) := by decide +kernel
theorem d_8_6_19 : decode prog_8_method_6_code 19 = .ok (.getfield 22, 3) := by decide +kernel
theorem d_8_6_22 : decode prog_8_method_6_code 22 = .ok (.iload 4, 2) := by decide +kernel
theorem d_8_6_24 : decode prog_8_method_6_code 24 = .ok (.laload, 1) := by decide +kernel
theorem d_8_6_25 : decode prog_8_method_6_code 25 = .ok (.lload_n 1, 1) := by decide +kernel
theorem d_8_6_26 : decode prog_8_method_6_code 26 = .ok (.lcmp, 1) := by decide +kernel
theorem d_8_6_27 : decode prog_8_method_6_code 27 = .ok (.ifCond .ne 6, 3) := by decide +kernel
theorem d_8_6_30 : decode prog_8_method_6_code 30 = .ok (.iload 4, 2) := by decide +kernel
theorem d_8_6_32 : decode prog_8_method_6_code 32 = .ok (.ireturn, 1) := by decide +kernel
theorem d_8_6_33 : decode prog_8_method_6_code 33 = .ok (.iinc 4 1, 3) := by decide +kernel
theorem d_8_6_36 : decode prog_8_method_6_code 36 = .ok (.goto (-25), 3) := by decide +kernel
theorem d_8_6_39 : decode prog_8_method_6_code 39 = .ok (.iload_n 3, 1) := by decide +kernel
theorem d_8_6_40 : decode prog_8_method_6_code 40 = .ok (.bipush 8, 2) := by decide +kernel
theorem d_8_6_42 : decode prog_8_method_6_code 42 = .ok (.if_icmp .le 7, 3) := by decide +kernel
theorem d_8_6_45 : decode prog_8_method_6_code 45 = .ok (.iconst (-1), 1) := by decide +kernel
theorem d_8_6_46 : decode prog_8_method_6_code 46 = .ok (.goto 5, 3) := by decide +kernel
theorem d_8_6_49 : decode prog_8_method_6_code 49 = .ok (.bipush 27, 2) := by decide +kernel
theorem d_8_6_51 : decode prog_8_method_6_code 51 = .ok (.ireturn, 1) := by decide +kernel
theorem d_8_7_0 : decode prog_8_method_7_code 0 = .ok (.lconst 0, 1) := by decide +kernel
theorem d_8_7_1 : decode prog_8_method_7_code 1 = .ok (.lstore 4, 2) := by decide +kernel
theorem d_8_7_3 : decode prog_8_method_7_code 3 = .ok (.iload_n 3, 1) := by decide +kernel
theorem d_8_7_4 : decode prog_8_method_7_code 4 = .ok (.istore 6, 2) := by decide +kernel
theorem d_8_7_6 : decode prog_8_method_7_code 6 = .ok (.iload 6, 2) := by decide +kernel
theorem d_8_7_8 : decode prog_8_method_7_code 8 = .ok (.iload_n 2, 1) := by decide +kernel
theorem d_8_7_9 : decode prog_8_method_7_code 9 = .ok (.if_icmp .ge 45, 3) := by decide +kernel
theorem d_8_7_12 : decode prog_8_method_7_code 12 = .ok (.aload_n 1, 1) := by decide +kernel
theorem d_8_7_13 : decode prog_8_method_7_code 13 = .ok (.iload 6, 2) := by decide +kernel
theorem d_8_7_15 : decode prog_8_method_7_code 15 = .ok (.baload, 1) := by decide +kernel
theorem d_8_7_16 : decode prog_8_method_7_code 16 = .ok (.invokestatic 75, 3) := by decide +kernel
theorem d_8_7_19 : decode prog_8_method_7_code 19 = .ok (.ifCond .eq 35, 3) := by decide +kernel
theorem d_8_7_22 : decode prog_8_method_7_code 22 = .ok (.lload 4, 2) := by decide +kernel
theorem d_8_7_24 : decode prog_8_method_7_code 24 = .ok (.ldc2_w 91, 3) := by decide +kernel
theorem d_8_7_27 : decode prog_8_method_7_code 27 = .ok (.lcmp, 1) := by decide +kernel
theorem d_8_7_28 : decode prog_8_method_7_code 28 = .ok (.ifCond .gt 20, 3) := by decide +kernel
theorem d_8_7_31 : decode prog_8_method_7_code 31 = .ok (.lload 4, 2) := by decide +kernel
theorem d_8_7_33 : decode prog_8_method_7_code 33 = .ok (.ldc2_w 93, 3) := by decide +kernel
theorem d_8_7_36 : decode prog_8_method_7_code 36 = .ok (.lmul, 1) := by decide +kernel
theorem d_8_7_37 : decode prog_8_method_7_code 37 = .ok (.aload_n 1, 1) := by decide +kernel
theorem d_8_7_38 : decode prog_8_method_7_code 38 = .ok (.iload 6, 2) := by decide +kernel
theorem d_8_7_40 : decode prog_8_method_7_code 40 = .ok (.baload, 1) := by decide +kernel
theorem d_8_7_41 : decode prog_8_method_7_code 41 = .ok (.bipush 48, 2) := by decide +kernel
theorem d_8_7_43 : decode prog_8_method_7_code 43 = .ok (.isub, 1) := by decide +kernel
theorem d_8_7_44 : decode prog_8_method_7_code 44 = .ok (.i2l, 1) := by decide +kernel
theorem d_8_7_45 : decode prog_8_method_7_code 45 = .ok (.ladd, 1) := by decide +kernel
theorem d_8_7_46 : decode prog_8_method_7_code 46 = .ok (.lstore 4, 2) := by decide +kernel
theorem d_8_7_48 : decode prog_8_method_7_code 48 = .ok (.iinc 6 1, 3) := by decide +kernel
theorem d_8_7_51 : decode prog_8_method_7_code 51 = .ok (.goto (-45), 3) := by decide +kernel
theorem d_8_7_54 : decode prog_8_method_7_code 54 = .ok (.aload_n 0, 1) := by decide +kernel
theorem d_8_7_55 : decode prog_8_method_7_code 55 = .ok (.lload 4, 2) := by decide +kernel
theorem d_8_7_57 : decode prog_8_method_7_code 57 = .ok (.ldc2_w 91, 3) := by decide +kernel
theorem d_8_7_60 : decode prog_8_method_7_code 60 = .ok (.lcmp, 1) := by decide +kernel
theorem d_8_7_61 : decode prog_8_method_7_code 61 = .ok (.ifCond .gt 8, 3) := by decide +kernel
theorem d_8_7_64 : decode prog_8_method_7_code 64 = .ok (.bipush 28, 2) := by decide +kernel
theorem d_8_7_66 : decode prog_8_method_7_code 66 = .ok (.goto 4, 3) := by decide +kernel
theorem d_8_7_69 : decode prog_8_method_7_code 69 = .ok (.iconst (-1), 1) := by decide +kernel
theorem d_8_7_70 : decode prog_8_method_7_code 70 = .ok (.iload_n 3, 1) := by decide +kernel
theorem d_8_7_71 : decode prog_8_method_7_code 71 = .ok (.lconst 0, 1) := by decide +kernel
theorem d_8_7_72 : decode prog_8_method_7_code 72 = .ok (.invokevirtual 61, 3) := by decide +kernel
theorem d_8_7_75 : decode prog_8_method_7_code 75 = .ok (.iload 6, 2) := by decide +kernel
theorem d_8_7_77 : decode prog_8_method_7_code 77 = .ok (.ireturn, 1) := by decide +kernel
theorem d_8_8_0 : decode prog_8_method_8_code 0 = .ok (.ldc 95, 2) := by decide +kernel
theorem d_8_8_2 : decode prog_8_method_8_code 2 = .ok (.aload_n 1, 1) := by decide +kernel
theorem d_8_8_3 : decode prog_8_method_8_code 3 = .ok (.iload_n 3, 1) := by decide +kernel
theorem d_8_8_4 : decode prog_8_method_8_code 4 = .ok (.baload, 1) := by decide +kernel
theorem d_8_8_5 : decode prog_8_method_8_code 5 = .ok (.sipush 255, 3) := by decide +kernel
theorem d_8_8_8 : decode prog_8_method_8_code 8 = .ok (.iand, 1) := by decide +kernel
theorem d_8_8_9 : decode prog_8_method_8_code 9 = .ok (.i2c, 1) := by decide +kernel
theorem d_8_8_10 : decode prog_8_method_8_code 10 = .ok (.invokevirtual 97, 3) := by decide +kernel
theorem d_8_8_13 : decode prog_8_method_8_code 13 = .ok (.istore 4, 2) := by decide +kernel
theorem d_8_8_15 : decode prog_8_method_8_code 15 = .ok (.iload 4, 2) := by decide +kernel
theorem d_8_8_17 : decode prog_8_method_8_code 17 = .ok (.ifCond .ge 7, 3) := by decide +kernel
theorem d_8_8_20 : decode prog_8_method_8_code 20 = .ok (.iconst (-1), 1) := by decide +kernel
theorem d_8_8_21 : decode prog_8_method_8_code 21 = .ok (.goto 8, 3) := by decide +kernel
theorem d_8_8_24 : decode prog_8_method_8_code 24 = .ok (.bipush 30, 2) := by decide +kernel
theorem d_8_8_26 : decode prog_8_method_8_code 26 = .ok (.iload 4, 2) := by decide +kernel
theorem d_8_8_28 : decode prog_8_method_8_code 28 = .ok (.iadd, 1) := by decide +kernel
theorem d_8_8_29 : decode prog_8_method_8_code 29 = .ok (.istore 5, 2) := by decide +kernel
theorem d_8_8_31 : decode prog_8_method_8_code 31 = .ok (.iload_n 3, 1) := by decide +kernel
theorem d_8_8_32 : decode prog_8_method_8_code 32 = .ok (.iconst 1, 1) := by decide +kernel
theorem d_8_8_33 : decode prog_8_method_8_code 33 = .ok (.iadd, 1) := by decide +kernel
theorem d_8_8_34 : decode prog_8_method_8_code 34 = .ok (.iload_n 2, 1) := by decide +kernel
theorem d_8_8_35 : decode prog_8_method_8_code 35 = .ok (.if_icmp .ge 21, 3) := by decide +kernel
theorem d_8_8_38 : decode prog_8_method_8_code 38 = .ok (.aload_n 1, 1) := by decide +kernel
theorem d_8_8_39 : decode prog_8_method_8_code 39 = .ok (.iload_n 3, 1) := by decide +kernel
theorem d_8_8_40 : decode prog_8_method_8_code 40 = .ok (.iconst 1, 1) := by decide +kernel
theorem d_8_8_41 : decode prog_8_method_8_code 41 = .ok (.iadd, 1) := by decide +kernel
theorem d_8_8_42 : decode prog_8_method_8_code 42 = .ok (.baload, 1) := by decide +kernel
theorem d_8_8_43 : decode prog_8_method_8_code 43 = .ok (.bipush 61, 2) := by decide +kernel
theorem d_8_8_45 : decode prog_8_method_8_code 45 = .ok (.if_icmp .ne 11, 3) := by decide +kernel
theorem d_8_8_48 : decode prog_8_method_8_code 48 = .ok (.iload 5, 2) := by decide +kernel
theorem d_8_8_50 : decode prog_8_method_8_code 50 = .ok (.invokestatic 101, 3) := by decide +kernel
theorem d_8_8_53 : decode prog_8_method_8_code 53 = .ok (.goto 4, 3) := by decide +kernel
theorem d_8_8_56 : decode prog_8_method_8_code 56 = .ok (.iconst (-1), 1) := by decide +kernel
theorem d_8_8_57 : decode prog_8_method_8_code 57 = .ok (.istore 6, 2) := by decide +kernel
theorem d_8_8_59 : decode prog_8_method_8_code 59 = .ok (.aload_n 0, 1) := by decide +kernel
theorem d_8_8_60 : decode prog_8_method_8_code 60 = .ok (.iload 6, 2) := by decide +kernel
theorem d_8_8_62 : decode prog_8_method_8_code 62 = .ok (.iconst (-1), 1) := by decide +kernel
theorem d_8_8_63 : decode prog_8_method_8_code 63 = .ok (.if_icmp .ne 8, 3) := by decide +kernel
theorem d_8_8_66 : decode prog_8_method_8_code 66 = .ok (.iload 5, 2) := by decide +kernel
theorem d_8_8_68 : decode prog_8_method_8_code 68 = .ok (.goto 5, 3) := by decide +kernel
theorem d_8_8_71 : decode prog_8_method_8_code 71 = .ok (.iload 6, 2) := by decide +kernel
theorem d_8_8_73 : decode prog_8_method_8_code 73 = .ok (.iload_n 3, 1) := by decide +kernel
theorem d_8_8_74 : decode prog_8_method_8_code 74 = .ok (.lconst 0, 1) := by decide +kernel
theorem d_8_8_75 : decode prog_8_method_8_code 75 = .ok (.invokevirtual 61, 3) := by decide +kernel
theorem d_8_8_78 : decode prog_8_method_8_code 78 = .ok (.iload 6, 2) := by decide +kernel
theorem d_8_8_80 : decode prog_8_method_8_code 80 = .ok (.iconst (-1), 1) := by decide +kernel
theorem d_8_8_81 : decode prog_8_method_8_code 81 = .ok (.if_icmp .ne 9, 3) := by decide +kernel
theorem d_8_8_84 : decode prog_8_method_8_code 84 = .ok (.iload_n 3, 1) := by decide +kernel
theorem d_8_8_85 : decode prog_8_method_8_code 85 = .ok (.iconst 1, 1) := by decide +kernel
theorem d_8_8_86 : decode prog_8_method_8_code 86 = .ok (.iadd, 1) := by decide +kernel
theorem d_8_8_87 : decode prog_8_method_8_code 87 = .ok (.goto 6, 3) := by decide +kernel
theorem d_8_8_90 : decode prog_8_method_8_code 90 = .ok (.iload_n 3, 1) := by decide +kernel
theorem d_8_8_91 : decode prog_8_method_8_code 91 = .ok (.iconst 2, 1) := by decide +kernel
theorem d_8_8_92 : decode prog_8_method_8_code 92 = .ok (.iadd, 1) := by decide +kernel
theorem d_8_8_93 : decode prog_8_method_8_code 93 = .ok (.ireturn, 1) := by decide +kernel
theorem d_8_9_0 : decode prog_8_method_9_code 0 = .ok (.iload_n 0, 1) := by decide +kernel
theorem d_8_9_1 : decode prog_8_method_9_code 1 = .ok (.tableswitch 40 40 43 #[31, 34, 40, 37], 31) := by decide +kernel
theorem d_8_9_32 : decode prog_8_method_9_code 32 = .ok (.bipush 47, 2) := by decide +kernel
theorem d_8_9_34 : decode prog_8_method_9_code 34 = .ok (.ireturn, 1) := by decide +kernel
theorem d_8_9_35 : decode prog_8_method_9_code 35 = .ok (.bipush 45, 2) := by decide +kernel
theorem d_8_9_37 : decode prog_8_method_9_code 37 = .ok (.ireturn, 1) := by decide +kernel
theorem d_8_9_38 : decode prog_8_method_9_code 38 = .ok (.bipush 46, 2) := by decide +kernel
theorem d_8_9_40 : decode prog_8_method_9_code 40 = .ok (.ireturn, 1) := by decide +kernel
theorem d_8_9_41 : decode prog_8_method_9_code 41 = .ok (.iconst (-1), 1) := by decide +kernel
theorem d_8_9_42 : decode prog_8_method_9_code 42 = .ok (.ireturn, 1) := by decide +kernel
