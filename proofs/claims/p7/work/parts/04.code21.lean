theorem d_6_27_108 : decode prog_6_method_27_code 108 = .ok (.invokevirtual 140, 3) := by decide +kernel
theorem d_6_27_111 : decode prog_6_method_27_code 111 = .ok (.invokevirtual 116, 3) := by decide +kernel
theorem d_6_27_114 : decode prog_6_method_27_code 114 = .ok (.return_, 1) := by decide +kernel
theorem d_6_28_0 : decode prog_6_method_28_code 0 = .ok (.aload_n 0, 1) := by decide +kernel
theorem d_6_28_1 : decode prog_6_method_28_code 1 = .ok (.aload_n 0, 1) := by decide +kernel
theorem d_6_28_2 : decode prog_6_method_28_code 2 = .ok (.getfield 42, 3) := by decide +kernel
theorem d_6_28_5 : decode prog_6_method_28_code 5 = .ok (.invokevirtual 137, 3) := by decide +kernel
theorem d_6_28_8 : decode prog_6_method_28_code 8 = .ok (.istore_n 1, 1) := by decide +kernel
theorem d_6_28_9 : decode prog_6_method_28_code 9 = .ok (.iconst 0, 1) := by decide +kernel
theorem d_6_28_10 : decode prog_6_method_28_code 10 = .ok (.istore_n 2, 1) := by decide +kernel
theorem d_6_28_11 : decode prog_6_method_28_code 11 = .ok (.iload_n 2, 1) := by decide +kernel
theorem d_6_28_12 : decode prog_6_method_28_code 12 = .ok (.sipush 1501, 3) := by decide +kernel
theorem d_6_28_15 : decode prog_6_method_28_code 15 = .ok (.if_icmp .ge 45, 3) := by decide +kernel
theorem d_6_28_18 : decode prog_6_method_28_code 18 = .ok (.iload_n 1, 1) := by decide +kernel
theorem d_6_28_19 : decode prog_6_method_28_code 19 = .ok (.ifCond .lt 41, 3) := by decide +kernel
theorem d_6_28_22 : decode prog_6_method_28_code 22 = .ok (.aload_n 0, 1) := by decide +kernel
theorem d_6_28_23 : decode prog_6_method_28_code 23 = .ok (.getfield 15, 3) := by decide +kernel
theorem d_6_28_26 : decode prog_6_method_28_code 26 = .ok (.iload_n 1, 1) := by decide +kernel
theorem d_6_28_27 : decode prog_6_method_28_code 27 = .ok (.invokevirtual 146, 3) := by decide +kernel
theorem d_6_28_30 : decode prog_6_method_28_code 30 = .ok (.ifCond .ne 15, 3) := by decide +kernel
theorem d_6_28_33 : decode prog_6_method_28_code 33 = .ok (.aload_n 0, 1) := by decide +kernel
theorem d_6_28_34 : decode prog_6_method_28_code 34 = .ok (.aload_n 0, 1) := by decide +kernel
theorem d_6_28_35 : decode prog_6_method_28_code 35 = .ok (.getfield 15, 3) := by decide +kernel
theorem d_6_28_38 : decode prog_6_method_28_code 38 = .ok (.iload_n 1, 1) := by decide +kernel
theorem d_6_28_39 : decode prog_6_method_28_code 39 = .ok (.invokevirtual 153, 3) := by decide +kernel
theorem d_6_28_42 : decode prog_6_method_28_code 42 = .ok (.invokevirtual 116, 3) := by decide +kernel
theorem d_6_28_45 : decode prog_6_method_28_code 45 = .ok (.aload_n 0, 1) := by decide +kernel
theorem d_6_28_46 : decode prog_6_method_28_code 46 = .ok (.getfield 15, 3) := by decide +kernel
theorem d_6_28_49 : decode prog_6_method_28_code 49 = .ok (.iload_n 1, 1) := by decide +kernel
theorem d_6_28_50 : decode prog_6_method_28_code 50 = .ok (.invokevirtual 155, 3) := by decide +kernel
theorem d_6_28_53 : decode prog_6_method_28_code 53 = .ok (.istore_n 1, 1) := by decide +kernel
theorem d_6_28_54 : decode prog_6_method_28_code 54 = .ok (.iinc 2 1, 3) := by decide +kernel
theorem d_6_28_57 : decode prog_6_method_28_code 57 = .ok (.goto (-46), 3) := by decide +kernel
theorem d_6_28_60 : decode prog_6_method_28_code 60 = .ok (.return_, 1) := by decide +kernel
theorem d_6_29_0 : decode prog_6_method_29_code 0 = .ok (.aload_n 0, 1) := by decide +kernel
theorem d_6_29_1 : decode prog_6_method_29_code 1 = .ok (.getfield 42, 3) := by decide +kernel
theorem d_6_29_4 : decode prog_6_method_29_code 4 = .ok (.istore_n 2, 1) := by decide +kernel
theorem d_6_29_5 : decode prog_6_method_29_code 5 = .ok (.iconst 0, 1) := by decide +kernel
theorem d_6_29_6 : decode prog_6_method_29_code 6 = .ok (.istore_n 3, 1) := by decide +kernel
theorem d_6_29_7 : decode prog_6_method_29_code 7 = .ok (.iload_n 3, 1) := by decide +kernel
theorem d_6_29_8 : decode prog_6_method_29_code 8 = .ok (.sipush 333, 3) := by decide +kernel
theorem d_6_29_11 : decode prog_6_method_29_code 11 = .ok (.if_icmp .ge 30, 3) := by decide +kernel
theorem d_6_29_14 : decode prog_6_method_29_code 14 = .ok (.iload_n 2, 1) := by decide +kernel
theorem d_6_29_15 : decode prog_6_method_29_code 15 = .ok (.ifCond .lt 26, 3) := by decide +kernel
theorem d_6_29_18 : decode prog_6_method_29_code 18 = .ok (.aload_n 0, 1) := by decide +kernel
theorem d_6_29_19 : decode prog_6_method_29_code 19 = .ok (.iload_n 2, 1) := by decide +kernel
theorem d_6_29_20 : decode prog_6_method_29_code 20 = .ok (.invokevirtual 69, 3) := by decide +kernel
theorem d_6_29_23 : decode prog_6_method_29_code 23 = .ok (.iload_n 1, 1) := by decide +kernel
theorem d_6_29_24 : decode prog_6_method_29_code 24 = .ok (.if_icmp .ne 5, 3) := by decide +kernel
theorem d_6_29_27 : decode prog_6_method_29_code 27 = .ok (.iconst 1, 1) := by decide +kernel
theorem d_6_29_28 : decode prog_6_method_29_code 28 = .ok (.ireturn, 1) := by decide +kernel
theorem d_6_29_29 : decode prog_6_method_29_code 29 = .ok (.aload_n 0, 1) := by decide +kernel
theorem d_6_29_30 : decode prog_6_method_29_code 30 = .ok (.iload_n 2, 1) := by decide +kernel
theorem d_6_29_31 : decode prog_6_method_29_code 31 = .ok (.invokevirtual 89, 3) := by decide +kernel
theorem d_6_29_34 : decode prog_6_method_29_code 34 = .ok (.istore_n 2, 1) := by decide +kernel
theorem d_6_29_35 : decode prog_6_method_29_code 35 = .ok (.iinc 3 1, 3) := by decide +kernel
theorem d_6_29_38 : decode prog_6_method_29_code 38 = .ok (.goto (-31), 3) := by decide +kernel
theorem d_6_29_41 : decode prog_6_method_29_code 41 = .ok (.iconst 0, 1) := by decide +kernel
theorem d_6_29_42 : decode prog_6_method_29_code 42 = .ok (.ireturn, 1) := by decide +kernel
theorem d_6_2_0 : decode prog_6_method_2_code 0 = .ok (.aload_n 0, 1) := by decide +kernel
theorem d_6_2_1 : decode prog_6_method_2_code 1 = .ok (.getfield 15, 3) := by decide +kernel
theorem d_6_2_4 : decode prog_6_method_2_code 4 = .ok (.invokevirtual 55, 3) := by decide +kernel
theorem d_6_2_7 : decode prog_6_method_2_code 7 = .ok (.aload_n 0, 1) := by decide +kernel
theorem d_6_2_8 : decode prog_6_method_2_code 8 = .ok (.getfield 32, 3) := by decide +kernel
theorem d_6_2_11 : decode prog_6_method_2_code 11 = .ok (.iconst (-1), 1) := by decide +kernel
theorem d_6_2_12 : decode prog_6_method_2_code 12 = .ok (.invokestatic 60, 3) := by decide +kernel
theorem d_6_2_15 : decode prog_6_method_2_code 15 = .ok (.aload_n 0, 1) := by decide +kernel
theorem d_6_2_16 : decode prog_6_method_2_code 16 = .ok (.iconst 0, 1) := by decide +kernel
theorem d_6_2_17 : decode prog_6_method_2_code 17 = .ok (.putfield 35, 3) := by decide +kernel
theorem d_6_2_20 : decode prog_6_method_2_code 20 = .ok (.aload_n 0, 1) := by decide +kernel
theorem d_6_2_21 : decode prog_6_method_2_code 21 = .ok (.sipush 3001, 3) := by decide +kernel
theorem d_6_2_24 : decode prog_6_method_2_code 24 = .ok (.putfield 48, 3) := by decide +kernel
theorem d_6_2_27 : decode prog_6_method_2_code 27 = .ok (.aload_n 0, 1) := by decide +kernel
theorem d_6_2_28 : decode prog_6_method_2_code 28 = .ok (.iconst 0, 1) := by decide +kernel
theorem d_6_2_29 : decode prog_6_method_2_code 29 = .ok (.putfield 51, 3) := by decide +kernel
theorem d_6_2_32 : decode prog_6_method_2_code 32 = .ok (.aload_n 0, 1) := by decide +kernel
theorem d_6_2_33 : decode prog_6_method_2_code 33 = .ok (.invokevirtual 66, 3) := by decide +kernel
theorem d_6_2_36 : decode prog_6_method_2_code 36 = .ok (.return_, 1) := by decide +kernel
theorem d_6_3_0 : decode prog_6_method_3_code 0 = .ok (.aload_n 0, 1) := by decide +kernel
theorem d_6_3_1 : decode prog_6_method_3_code 1 = .ok (.iconst 1, 1) := by decide +kernel
theorem d_6_3_2 : decode prog_6_method_3_code 2 = .ok (.putfield 51, 3) := by decide +kernel
theorem d_6_3_5 : decode prog_6_method_3_code 5 = .ok (.aload_n 0, 1) := by decide +kernel
theorem d_6_3_6 : decode prog_6_method_3_code 6 = .ok (.invokevirtual 66, 3) := by decide +kernel
theorem d_6_3_9 : decode prog_6_method_3_code 9 = .ok (.return_, 1) := by decide +kernel
theorem d_6_4_0 : decode prog_6_method_4_code 0 = .ok (.aload_n 0, 1) := by decide +kernel
theorem d_6_4_1 : decode prog_6_method_4_code 1 = .ok (.iconst 0, 1) := by decide +kernel
theorem d_6_4_2 : decode prog_6_method_4_code 2 = .ok (.putfield 39, 3) := by decide +kernel
theorem d_6_4_5 : decode prog_6_method_4_code 5 = .ok (.aload_n 0, 1) := by decide +kernel
theorem d_6_4_6 : decode prog_6_method_4_code 6 = .ok (.iconst (-1), 1) := by decide +kernel
theorem d_6_4_7 : decode prog_6_method_4_code 7 = .ok (.putfield 42, 3) := by decide +kernel
theorem d_6_4_10 : decode prog_6_method_4_code 10 = .ok (.aload_n 0, 1) := by decide +kernel
theorem d_6_4_11 : decode prog_6_method_4_code 11 = .ok (.iconst (-1), 1) := by decide +kernel
theorem d_6_4_12 : decode prog_6_method_4_code 12 = .ok (.putfield 45, 3) := by decide +kernel
theorem d_6_4_15 : decode prog_6_method_4_code 15 = .ok (.return_, 1) := by decide +kernel
theorem d_6_5_0 : decode prog_6_method_5_code 0 = .ok (.aload_n 0, 1) := by decide +kernel
theorem d_6_5_1 : decode prog_6_method_5_code 1 = .ok (.getfield 48, 3) := by decide +kernel
theorem d_6_5_4 : decode prog_6_method_5_code 4 = .ok (.sipush 3001, 3) := by decide +kernel
theorem d_6_5_7 : decode prog_6_method_5_code 7 = .ok (.if_icmp .ge 10, 3) := by decide +kernel
theorem d_6_5_10 : decode prog_6_method_5_code 10 = .ok (.aload_n 0, 1) := by decide +kernel
theorem d_6_5_11 : decode prog_6_method_5_code 11 = .ok (.getfield 48, 3) := by decide +kernel
theorem d_6_5_14 : decode prog_6_method_5_code 14 = .ok (.goto 5, 3) := by decide +kernel
theorem d_6_5_17 : decode prog_6_method_5_code 17 = .ok (.bipush (-2), 2) := by decide +kernel
theorem d_6_5_19 : decode prog_6_method_5_code 19 = .ok (.ireturn, 1) := by decide +kernel
theorem d_6_6_0 : decode prog_6_method_6_code 0 = .ok (.aload_n 0, 1) := by decide +kernel
theorem d_6_6_1 : decode prog_6_method_6_code 1 = .ok (.getfield 35, 3) := by decide +kernel
theorem d_6_6_4 : decode prog_6_method_6_code 4 = .ok (.ireturn, 1) := by decide +kernel
theorem d_6_7_0 : decode prog_6_method_7_code 0 = .ok (.iload_n 1, 1) := by decide +kernel
theorem d_6_7_1 : decode prog_6_method_7_code 1 = .ok (.ifCond .lt 20, 3) := by decide +kernel
theorem d_6_7_4 : decode prog_6_method_7_code 4 = .ok (.iload_n 1, 1) := by decide +kernel
theorem d_6_7_5 : decode prog_6_method_7_code 5 = .ok (.aload_n 0, 1) := by decide +kernel
theorem d_6_7_6 : decode prog_6_method_7_code 6 = .ok (.getfield 35, 3) := by decide +kernel
theorem d_6_7_9 : decode prog_6_method_7_code 9 = .ok (.if_icmp .ge 12, 3) := by decide +kernel
theorem d_6_7_12 : decode prog_6_method_7_code 12 = .ok (.aload_n 0, 1) := by decide +kernel
theorem d_6_7_13 : decode prog_6_method_7_code 13 = .ok (.getfield 23, 3) := by decide +kernel
theorem d_6_7_16 : decode prog_6_method_7_code 16 = .ok (.iload_n 1, 1) := by decide +kernel
theorem d_6_7_17 : decode prog_6_method_7_code 17 = .ok (.iaload, 1) := by decide +kernel
theorem d_6_7_18 : decode prog_6_method_7_code 18 = .ok (.goto 4, 3) := by decide +kernel
theorem d_6_7_21 : decode prog_6_method_7_code 21 = .ok (.iconst (-1), 1) := by decide +kernel
theorem d_6_7_22 : decode prog_6_method_7_code 22 = .ok (.ireturn, 1) := by decide +kernel
theorem d_6_8_0 : decode prog_6_method_8_code 0 = .ok (.iload_n 1, 1) := by decide +kernel
theorem d_6_8_1 : decode prog_6_method_8_code 1 = .ok (.ifCond .lt 20, 3) := by decide +kernel
theorem d_6_8_4 : decode prog_6_method_8_code 4 = .ok (.iload_n 1, 1) := by decide +kernel
theorem d_6_8_5 : decode prog_6_method_8_code 5 = .ok (.aload_n 0, 1) := by decide +kernel
theorem d_6_8_6 : decode prog_6_method_8_code 6 = .ok (.getfield 35, 3) := by decide +kernel
theorem d_6_8_9 : decode prog_6_method_8_code 9 = .ok (.if_icmp .ge 12, 3) := by decide +kernel
theorem d_6_8_12 : decode prog_6_method_8_code 12 = .ok (.aload_n 0, 1) := by decide +kernel
theorem d_6_8_13 : decode prog_6_method_8_code 13 = .ok (.getfield 19, 3) := by decide +kernel
theorem d_6_8_16 : decode prog_6_method_8_code 16 = .ok (.iload_n 1, 1) := by decide +kernel
theorem d_6_8_17 : decode prog_6_method_8_code 17 = .ok (.iaload, 1) := by decide +kernel
theorem d_6_8_18 : decode prog_6_method_8_code 18 = .ok (.goto 4, 3) := by decide +kernel
theorem d_6_8_21 : decode prog_6_method_8_code 21 = .ok (.iconst (-1), 1) := by decide +kernel
theorem d_6_8_22 : decode prog_6_method_8_code 22 = .ok (.ireturn, 1) := by decide +kernel
theorem d_6_9_0 : decode prog_6_method_9_code 0 = .ok (.iload_n 1, 1) := by decide +kernel
theorem d_6_9_1 : decode prog_6_method_9_code 1 = .ok (.ifCond .lt 20, 3) := by decide +kernel
theorem d_6_9_4 : decode prog_6_method_9_code 4 = .ok (.iload_n 1, 1) := by decide +kernel
theorem d_6_9_5 : decode prog_6_method_9_code 5 = .ok (.aload_n 0, 1) := by decide +kernel
theorem d_6_9_6 : decode prog_6_method_9_code 6 = .ok (.getfield 35, 3) := by decide +kernel
theorem d_6_9_9 : decode prog_6_method_9_code 9 = .ok (.if_icmp .ge 12, 3) := by decide +kernel
theorem d_6_9_12 : decode prog_6_method_9_code 12 = .ok (.aload_n 0, 1) := by decide +kernel
theorem d_6_9_13 : decode prog_6_method_9_code 13 = .ok (.getfield 29, 3) := by decide +kernel
theorem d_6_9_16 : decode prog_6_method_9_code 16 = .ok (.iload_n 1, 1) := by decide +kernel
theorem d_6_9_17 : decode prog_6_method_9_code 17 = .ok (.iaload, 1) := by decide +kernel
theorem d_6_9_18 : decode prog_6_method_9_code 18 = .ok (.goto 4, 3) := by decide +kernel
theorem d_6_9_21 : decode prog_6_method_9_code 21 = .ok (.iconst (-1), 1) := by decide +kernel
theorem d_6_9_22 : decode prog_6_method_9_code 22 = .ok (.ireturn, 1) := by decide +kernel
theorem d_7_10_0 : decode prog_7_method_10_code 0 = .ok (.iload_n 1, 1) := by decide +kernel
theorem d_7_10_1 : decode prog_7_method_10_code 1 = .ok (.ifCond .lt 25, 3) := by decide +kernel
theorem d_7_10_4 : decode prog_7_method_10_code 4 = .ok (.iload_n 1, 1) := by decide +kernel
theorem d_7_10_5 : decode prog_7_method_10_code 5 = .ok (.aload_n 0, 1) := by decide +kernel
theorem d_7_10_6 : decode prog_7_method_10_code 6 = .ok (.getfield 44, 3) := by decide +kernel
theorem d_7_10_9 : decode prog_7_method_10_code 9 = .ok (.if_icmp .ge 17, 3) := by decide +kernel
theorem d_7_10_12 : decode prog_7_method_10_code 12 = .ok (.aload_n 0, 1) := by decide +kernel
theorem d_7_10_13 : decode prog_7_method_10_code 13 = .ok (.getfield 15, 3) := by decide +kernel
theorem d_7_10_16 : decode prog_7_method_10_code 16 = .ok (.iload_n 1, 1) := by decide +kernel
theorem d_7_10_17 : decode prog_7_method_10_code 17 = .ok (.iload_n 2, 1) := by decide +kernel
theorem d_7_10_18 : decode prog_7_method_10_code 18 = .ok (.iastore, 1) := by decide +kernel
theorem d_7_10_19 : decode prog_7_method_10_code 19 = .ok (.aload_n 0, 1) := by decide +kernel
theorem d_7_10_20 : decode prog_7_method_10_code 20 = .ok (.getfield 19, 3) := by decide +kernel
theorem d_7_10_23 : decode prog_7_method_10_code 23 = .ok (.iload_n 1, 1) := by decide +kernel
theorem d_7_10_24 : decode prog_7_method_10_code 24 = .ok (.iload_n 3, 1) := by decide +kernel
theorem d_7_10_25 : decode prog_7_method_10_code 25 = .ok (.iastore, 1) := by decide +kernel
theorem d_7_10_26 : decode prog_7_method_10_code 26 = .ok (.return_, 1) := by decide +kernel
theorem d_7_11_0 : decode prog_7_method_11_code 0 = .ok (.iload_n 1, 1) := by decide +kernel
theorem d_7_11_1 : decode prog_7_method_11_code 1 = .ok (.istore 4, 2) := by decide +kernel
theorem d_7_11_3 : decode prog_7_method_11_code 3 = .ok (.iconst 0, 1) := by decide +kernel
theorem d_7_11_4 : decode prog_7_method_11_code 4 = .ok (.istore 5, 2) := by decide +kernel
theorem d_7_11_6 : decode prog_7_method_11_code 6 = .ok (.iload 5, 2) := by decide +kernel
theorem d_7_11_8 : decode prog_7_method_11_code 8 = .ok (.sipush 1501, 3) := by decide +kernel
theorem d_7_11_11 : decode prog_7_method_11_code 11 = .ok (.if_icmp .ge 47, 3) := by decide +kernel
theorem d_7_11_14 : decode prog_7_method_11_code 14 = .ok (.iload 4, 2) := by decide +kernel
theorem d_7_11_16 : decode prog_7_method_11_code 16 = .ok (.ifCond .lt 42, 3) := by decide +kernel
theorem d_7_11_19 : decode prog_7_method_11_code 19 = .ok (.iload 4, 2) := by decide +kernel
theorem d_7_11_21 : decode prog_7_method_11_code 21 = .ok (.aload_n 0, 1) := by decide +kernel
theorem d_7_11_22 : decode prog_7_method_11_code 22 = .ok (.getfield 44, 3) := by decide +kernel
theorem d_7_11_25 : decode prog_7_method_11_code 25 = .ok (.if_icmp .ge 33, 3) := by decide +kernel
theorem d_7_11_28 : decode prog_7_method_11_code 28 = .ok (.aload_n 0, 1) := by decide +kernel
theorem d_7_11_29 : decode prog_7_method_11_code 29 = .ok (.getfield 9, 3) := by decide +kernel
theorem d_7_11_32 : decode prog_7_method_11_code 32 = .ok (.iload 4, 2) := by decide +kernel
theorem d_7_11_34 : decode prog_7_method_11_code 34 = .ok (.laload, 1) := by decide +kernel
theorem d_7_11_35 : decode prog_7_method_11_code 35 = .ok (.lload_n 2, 1) := by decide +kernel
theorem d_7_11_36 : decode prog_7_method_11_code 36 = .ok (.lcmp, 1) := by decide +kernel
theorem d_7_11_37 : decode prog_7_method_11_code 37 = .ok (.ifCond .ne 6, 3) := by decide +kernel
theorem d_7_11_40 : decode prog_7_method_11_code 40 = .ok (.iload 4, 2) := by decide +kernel
theorem d_7_11_42 : decode prog_7_method_11_code 42 = .ok (.ireturn, 1) := by decide +kernel
theorem d_7_11_43 : decode prog_7_method_11_code 43 = .ok (.aload_n 0, 1) := by decide +kernel
theorem d_7_11_44 : decode prog_7_method_11_code 44 = .ok (.getfield 31, 3) := by decide +kernel
theorem d_7_11_47 : decode prog_7_method_11_code 47 = .ok (.iload 4, 2) := by decide +kernel
theorem d_7_11_49 : decode prog_7_method_11_code 49 = .ok (.iaload, 1) := by decide +kernel
theorem d_7_11_50 : decode prog_7_method_11_code 50 = .ok (.istore 4, 2) := by decide +kernel
theorem d_7_11_52 : decode prog_7_method_11_code 52 = .ok (.iinc 5 1, 3) := by decide +kernel
theorem d_7_11_55 : decode prog_7_method_11_code 55 = .ok (.goto (-49), 3) := by decide +kernel
theorem d_7_11_58 : decode prog_7_method_11_code 58 = .ok (.iconst (-1), 1) := by decide +kernel
theorem d_7_11_59 : decode prog_7_method_11_code 59 = .ok (.ireturn, 1) := by decide +kernel
theorem d_7_12_0 : decode prog_7_method_12_code 0 = .ok (.iload_n 1, 1) := by decide +kernel
theorem d_7_12_1 : decode prog_7_method_12_code 1 = .ok (.ifCond .lt 20, 3) := by decide +kernel
theorem d_7_12_4 : decode prog_7_method_12_code 4 = .ok (.iload_n 1, 1) := by decide +kernel
theorem d_7_12_5 : decode prog_7_method_12_code 5 = .ok (.aload_n 0, 1) := by decide +kernel
theorem d_7_12_6 : decode prog_7_method_12_code 6 = .ok (.getfield 44, 3) := by decide +kernel
theorem d_7_12_9 : decode prog_7_method_12_code 9 = .ok (.if_icmp .ge 12, 3) := by decide +kernel
theorem d_7_12_12 : decode prog_7_method_12_code 12 = .ok (.aload_n 0, 1) := by decide +kernel
theorem d_7_12_13 : decode prog_7_method_12_code 13 = .ok (.getfield 15, 3) := by decide +kernel
theorem d_7_12_16 : decode prog_7_method_12_code 16 = .ok (.iload_n 1, 1) := by decide +kernel
theorem d_7_12_17 : decode prog_7_method_12_code 17 = .ok (.iaload, 1) := by decide +kernel
theorem d_7_12_18 : decode prog_7_method_12_code 18 = .ok (.goto 4, 3) := by decide +kernel
theorem d_7_12_21 : decode prog_7_method_12_code 21 = .ok (.iconst 0, 1) := by decide +kernel
theorem d_7_12_22 : decode prog_7_method_12_code 22 = .ok (.ireturn, 1) := by decide +kernel
theorem d_7_13_0 : decode prog_7_method_13_code 0 = .ok (.iload_n 1, 1) := by decide +kernel
theorem d_7_13_1 : decode prog_7_method_13_code 1 = .ok (.ifCond .lt 20, 3) := by decide +kernel
theorem d_7_13_4 : decode prog_7_method_13_code 4 = .ok (.iload_n 1, 1) := by decide +kernel
theorem d_7_13_5 : decode prog_7_method_13_code 5 = .ok (.aload_n 0, 1) := by decide +kernel
theorem d_7_13_6 : decode prog_7_method_13_code 6 = .ok (.getfield 44, 3) := by decide +kernel
theorem d_7_13_9 : decode prog_7_method_13_code 9 = .ok (.if_icmp .ge 12, 3) := by decide +kernel
theorem d_7_13_12 : decode prog_7_method_13_code 12 = .ok (.aload_n 0, 1) := by decide +kernel
theorem d_7_13_13 : decode prog_7_method_13_code 13 = .ok (.getfield 19, 3) := by decide +kernel
theorem d_7_13_16 : decode prog_7_method_13_code 16 = .ok (.iload_n 1, 1) := by decide +kernel
theorem d_7_13_17 : decode prog_7_method_13_code 17 = .ok (.iaload, 1) := by decide +kernel
theorem d_7_13_18 : decode prog_7_method_13_code 18 = .ok (.goto 4, 3) := by decide +kernel
theorem d_7_13_21 : decode prog_7_method_13_code 21 = .ok (.iconst 0, 1) := by decide +kernel
theorem d_7_13_22 : decode prog_7_method_13_code 22 = .ok (.ireturn, 1) := by decide +kernel
theorem d_7_14_0 : decode prog_7_method_14_code 0 = .ok (.iload_n 1, 1) := by decide +kernel
theorem d_7_14_1 : decode prog_7_method_14_code 1 = .ok (.ifCond .lt 20, 3) := by decide +kernel
theorem d_7_14_4 : decode prog_7_method_14_code 4 = .ok (.iload_n 1, 1) := by decide +kernel
theorem d_7_14_5 : decode prog_7_method_14_code 5 = .ok (.aload_n 0, 1) := by decide +kernel
theorem d_7_14_6 : decode prog_7_method_14_code 6 = .ok (.getfield 44, 3) := by decide +kernel
theorem d_7_14_9 : decode prog_7_method_14_code 9 = .ok (.if_icmp .ge 12, 3) := by decide +kernel
theorem d_7_14_12 : decode prog_7_method_14_code 12 = .ok (.aload_n 0, 1) := by decide +kernel
theorem d_7_14_13 : decode prog_7_method_14_code 13 = .ok (.getfield 22, 3) := by decide +kernel
theorem d_7_14_16 : decode prog_7_method_14_code 16 = .ok (.iload_n 1, 1) := by decide +kernel
theorem d_7_14_17 : decode prog_7_method_14_code 17 = .ok (.iaload, 1) := by decide +kernel
theorem d_7_14_18 : decode prog_7_method_14_code 18 = .ok (.goto 4, 3) := by decide +kernel
theorem d_7_14_21 : decode prog_7_method_14_code 21 = .ok (.iconst 0, 1) := by decide +kernel
theorem d_7_14_22 : decode prog_7_method_14_code 22 = .ok (.ireturn, 1) := by decide +kernel
theorem d_7_15_0 : decode prog_7_method_15_code 0 = .ok (.iload_n 1, 1) := by decide +kernel
theorem d_7_15_1 : decode prog_7_method_15_code 1 = .ok (.ifCond .lt 20, 3) := by decide +kernel
theorem d_7_15_4 : decode prog_7_method_15_code 4 = .ok (.iload_n 1, 1) := by decide +kernel
theorem d_7_15_5 : decode prog_7_method_15_code 5 = .ok (.aload_n 0, 1) := by decide +kernel
theorem d_7_15_6 : decode prog_7_method_15_code 6 = .ok (.getfield 44, 3) := by decide +kernel
theorem d_7_15_9 : decode prog_7_method_15_code 9 = .ok (.if_icmp .ge 12, 3) := by decide +kernel
theorem d_7_15_12 : decode prog_7_method_15_code 12 = .ok (.aload_n 0, 1) := by decide +kernel
theorem d_7_15_13 : decode prog_7_method_15_code 13 = .ok (.getfield 25, 3) := by decide +kernel
theorem d_7_15_16 : decode prog_7_method_15_code 16 = .ok (.iload_n 1, 1) := by decide +kernel
theorem d_7_15_17 : decode prog_7_method_15_code 17 = .ok (.iaload, 1) := by decide +kernel
theorem d_7_15_18 : decode prog_7_method_15_code 18 = .ok (.goto 4, 3) := by decide +kernel
theorem d_7_15_21 : decode prog_7_method_15_code 21 = .ok (.iconst 0, 1) := by decide +kernel
theorem d_7_15_22 : decode prog_7_method_15_code 22 = .ok (.ireturn, 1) := by decide +kernel
theorem d_7_16_0 : decode prog_7_method_16_code 0 = .ok (.iload_n 1, 1) := by decide +kernel
theorem d_7_16_1 : decode prog_7_method_16_code 1 = .ok (.ifCond .lt 20, 3) := by decide +kernel
theorem d_7_16_4 : decode prog_7_method_16_code 4 = .ok (.iload_n 1, 1) := by decide +kernel
theorem d_7_16_5 : decode prog_7_method_16_code 5 = .ok (.aload_n 0, 1) := by decide +kernel
theorem d_7_16_6 : decode prog_7_method_16_code 6 = .ok (.getfield 44, 3) := by decide +kernel
theorem d_7_16_9 : decode prog_7_method_16_code 9 = .ok (.if_icmp .ge 12, 3) := by decide +kernel
theorem d_7_16_12 : decode prog_7_method_16_code 12 = .ok (.aload_n 0, 1) := by decide +kernel
theorem d_7_16_13 : decode prog_7_method_16_code 13 = .ok (.getfield 28, 3) := by decide +kernel
theorem d_7_16_16 : decode prog_7_method_16_code 16 = .ok (.iload_n 1, 1) := by decide +kernel
theorem d_7_16_17 : decode prog_7_method_16_code 17 = .ok (.iaload, 1) := by decide +kernel
theorem d_7_16_18 : decode prog_7_method_16_code 18 = .ok (.goto 4, 3) := by decide +kernel
theorem d_7_16_21 : decode prog_7_method_16_code 21 = .ok (.iconst (-1), 1) := by decide +kernel
theorem d_7_16_22 : decode prog_7_method_16_code 22 = .ok (.ireturn, 1) := by decide +kernel
theorem d_7_17_0 : decode prog_7_method_17_code 0 = .ok (.iload_n 1, 1) := by decide +kernel
theorem d_7_17_1 : decode prog_7_method_17_code 1 = .ok (.ifCond .lt 20, 3) := by decide +kernel
theorem d_7_17_4 : decode prog_7_method_17_code 4 = .ok (.iload_n 1, 1) := by decide +kernel
theorem d_7_17_5 : decode prog_7_method_17_code 5 = .ok (.aload_n 0, 1) := by decide +kernel
theorem d_7_17_6 : decode prog_7_method_17_code 6 = .ok (.getfield 44, 3) := by decide +kernel
theorem d_7_17_9 : decode prog_7_method_17_code 9 = .ok (.if_icmp .ge 12, 3) := by decide +kernel
theorem d_7_17_12 : decode prog_7_method_17_code 12 = .ok (.aload_n 0, 1) := by decide +kernel
theorem d_7_17_13 : decode prog_7_method_17_code 13 = .ok (.getfield 31, 3) := by decide +kernel
theorem d_7_17_16 : decode prog_7_method_17_code 16 = .ok (.iload_n 1, 1) := by decide +kernel
theorem d_7_17_17 : decode prog_7_method_17_code 17 = .ok (.iaload, 1) := by decide +kernel
theorem d_7_17_18 : decode prog_7_method_17_code 18 = .ok (.goto 4, 3) := by decide +kernel
theorem d_7_17_21 : decode prog_7_method_17_code 21 = .ok (.iconst (-1), 1) := by decide +kernel
theorem d_7_17_22 : decode prog_7_method_17_code 22 = .ok (.ireturn, 1) := by decide +kernel
theorem d_7_18_0 : decode prog_7_method_18_code 0 = .ok (.iload_n 1, 1) := by decide +kernel
theorem d_7_18_1 : decode prog_7_method_18_code 1 = .ok (.ifCond .lt 20, 3) := by decide +kernel
theorem d_7_18_4 : decode prog_7_method_18_code 4 = .ok (.iload_n 1, 1) := by decide +kernel
theorem d_7_18_5 : decode prog_7_method_18_code 5 = .ok (.aload_n 0, 1) := by decide +kernel
theorem d_7_18_6 : decode prog_7_method_18_code 6 = .ok (.getfield 44, 3) := by decide +kernel
theorem d_7_18_9 : decode prog_7_method_18_code 9 = .ok (.if_icmp .ge 12, 3) := by decide +kernel
theorem d_7_18_12 : decode prog_7_method_18_code 12 = .ok (.aload_n 0, 1) := by decide +kernel
theorem d_7_18_13 : decode prog_7_method_18_code 13 = .ok (.getfield 34, 3) := by decide +kernel
theorem d_7_18_16 : decode prog_7_method_18_code 16 = .ok (.iload_n 1, 1) := by decide +kernel
theorem d_7_18_17 : decode prog_7_method_18_code 17 = .ok (.iaload, 1) := by decide +kernel
theorem d_7_18_18 : decode prog_7_method_18_code 18 = .ok (.goto 4, 3) := by decide +kernel
theorem d_7_18_21 : decode prog_7_method_18_code 21 = .ok (.iconst (-1), 1) := by decide +kernel
theorem d_7_18_22 : decode prog_7_method_18_code 22 = .ok (.ireturn, 1) := by decide +kernel
theorem d_7_19_0 : decode prog_7_method_19_code 0 = .ok (.iload_n 1, 1) := by decide +kernel
theorem d_7_19_1 : decode prog_7_method_19_code 1 = .ok (.ifCond .lt 20, 3) := by decide +kernel
theorem d_7_19_4 : decode prog_7_method_19_code 4 = .ok (.iload_n 1, 1) := by decide +kernel
theorem d_7_19_5 : decode prog_7_method_19_code 5 = .ok (.aload_n 0, 1) := by decide +kernel
theorem d_7_19_6 : decode prog_7_method_19_code 6 = .ok (.getfield 44, 3) := by decide +kernel
theorem d_7_19_9 : decode prog_7_method_19_code 9 = .ok (.if_icmp .ge 12, 3) := by decide +kernel
theorem d_7_19_12 : decode prog_7_method_19_code 12 = .ok (.aload_n 0, 1) := by decide +kernel
theorem d_7_19_13 : decode prog_7_method_19_code 13 = .ok (.getfield 37, 3) := by decide +kernel
theorem d_7_19_16 : decode prog_7_method_19_code 16 = .ok (.iload_n 1, 1) := by decide +kernel
theorem d_7_19_17 : decode prog_7_method_19_code 17 = .ok (.iaload, 1) := by decide +kernel
theorem d_7_19_18 : decode prog_7_method_19_code 18 = .ok (.goto 4, 3) := by decide +kernel
theorem d_7_19_21 : decode prog_7_method_19_code 21 = .ok (.iconst (-1), 1) := by decide +kernel
theorem d_7_19_22 : decode prog_7_method_19_code 22 = .ok (.ireturn, 1) := by decide +kernel
theorem d_7_1_0 : decode prog_7_method_1_code 0 = .ok (.aload_n 0, 1) := by decide +kernel
theorem d_7_1_1 : decode prog_7_method_1_code 1 = .ok (.invokespecial 3, 3) := by decide +kernel
theorem d_7_1_4 : decode prog_7_method_1_code 4 = .ok (.aload_n 0, 1) := by decide +kernel
theorem d_7_1_5 : decode prog_7_method_1_code 5 = .ok (.sipush 1501, 3) := by decide +kernel
theorem d_7_1_8 : decode prog_7_method_1_code 8 = .ok (.newarray .long, 2) := by decide +kernel
theorem d_7_1_10 : decode prog_7_method_1_code 10 = .ok (.putfield 9, 3) := by decide +kernel
theorem d_7_1_13 : decode prog_7_method_1_code 13 = .ok (.aload_n 0, 1) := by decide +kernel
theorem d_7_1_14 : decode prog_7_method_1_code 14 = .ok (.sipush 1501, 3) := by decide +kernel
theorem d_7_1_17 : decode prog_7_method_1_code 17 = .ok (.newarray .int, 2) := by decide +kernel
theorem d_7_1_19 : decode prog_7_method_1_code 19 = .ok (.putfield 15, 3) := by decide +kernel
theorem d_7_1_22 : decode prog_7_method_1_code 22 = .ok (.aload_n 0, 1) := by decide +kernel
theorem d_7_1_23 : decode prog_7_method_1_code 23 = .ok (.sipush 1501, 3) := by decide +kernel
theorem d_7_1_26 : decode prog_7_method_1_code 26 = .ok (.newarray .int, 2) := by decide +kernel
theorem d_7_1_28 : decode prog_7_method_1_code 28 = .ok (.putfield 19, 3) := by decide +kernel
theorem d_7_1_31 : decode prog_7_method_1_code 31 = .ok (.aload_n 0, 1) := by decide +kernel
theorem d_7_1_32 : decode prog_7_method_1_code 32 = .ok (.sipush 1501, 3) := by decide +kernel
theorem d_7_1_35 : decode prog_7_method_1_code 35 = .ok (.newarray .int, 2) := by decide +kernel
theorem d_7_1_37 : decode prog_7_method_1_code 37 = .ok (.putfield 22, 3) := by decide +kernel
theorem d_7_1_40 : decode prog_7_method_1_code 40 = .ok (.aload_n 0, 1) := by decide +kernel
theorem d_7_1_41 : decode prog_7_method_1_code 41 = .ok (.sipush 1501, 3) := by decide +kernel
theorem d_7_1_44 : decode prog_7_method_1_code 44 = .ok (.newarray .int, 2) := by decide +kernel
theorem d_7_1_46 : decode prog_7_method_1_code 46 = .ok (.putfield 25, 3) := by decide +kernel
theorem d_7_1_49 : decode prog_7_method_1_code 49 = .ok (.aload_n 0, 1) := by decide +kernel
theorem d_7_1_50 : decode prog_7_method_1_code 50 = .ok (.sipush 1501, 3) := by decide +kernel
theorem d_7_1_53 : decode prog_7_method_1_code 53 = .ok (.newarray .int, 2) := by decide +kernel
theorem d_7_1_55 : decode prog_7_method_1_code 55 = .ok (.putfield 28, 3) := by decide +kernel
theorem d_7_1_58 : decode prog_7_method_1_code 58 = .ok (.aload_n 0, 1) := by decide +kernel
theorem d_7_1_59 : decode prog_7_method_1_code 59 = .ok (.sipush 1501, 3) := by decide +kernel
theorem d_7_1_62 : decode prog_7_method_1_code 62 = .ok (.newarray .int, 2) := by decide +kernel
theorem d_7_1_64 : decode prog_7_method_1_code 64 = .ok (.putfield 31, 3) := by decide +kernel
theorem d_7_1_67 : decode prog_7_method_1_code 67 = .ok (.aload_n 0, 1) := by decide +kernel
theorem d_7_1_68 : decode prog_7_method_1_code 68 = .ok (.sipush 1501, 3) := by decide +kernel
theorem d_7_1_71 : decode prog_7_method_1_code 71 = .ok (.newarray .int, 2) := by decide +kernel
theorem d_7_1_73 : decode prog_7_method_1_code 73 = .ok (.putfield 34, 3) := by decide +kernel
theorem d_7_1_76 : decode prog_7_method_1_code 76 = .ok (.aload_n 0, 1) := by decide +kernel
theorem d_7_1_77 : decode prog_7_method_1_code 77 = .ok (.sipush 1501, 3) := by decide +kernel
theorem d_7_1_80 : decode prog_7_method_1_code 80 = .ok (.newarray .int, 2) := by decide +kernel
theorem d_7_1_82 : decode prog_7_method_1_code 82 = .ok (.putfield 37, 3) := by decide +kernel
theorem d_7_1_85 : decode prog_7_method_1_code 85 = .ok (.aload_n 0, 1) := by decide +kernel
theorem d_7_1_86 : decode prog_7_method_1_code 86 = .ok (.sipush 1501, 3) := by decide +kernel
theorem d_7_1_89 : decode prog_7_method_1_code 89 = .ok (.newarray .boolean, 2) := by decide +kernel
theorem d_7_1_91 : decode prog_7_method_1_code 91 = .ok (.putfield 40, 3) := by decide +kernel
theorem d_7_1_94 : decode prog_7_method_1_code 94 = .ok (.aload_n 0, 1) := by decide +kernel
theorem d_7_1_95 : decode prog_7_method_1_code 95 = .ok (.iconst 0, 1) := by decide +kernel
theorem d_7_1_96 : decode prog_7_method_1_code 96 = .ok (.putfield 44, 3) := by decide +kernel
theorem d_7_1_99 : decode prog_7_method_1_code 99 = .ok (.return_, 1) := by decide +kernel
theorem d_7_20_0 : decode prog_7_method_20_code 0 = .ok (.iload_n 1, 1) := by decide +kernel
theorem d_7_20_1 : decode prog_7_method_20_code 1 = .ok (.ifCond .lt 33, 3) := by decide +kernel
theorem d_7_20_4 : decode prog_7_method_20_code 4 = .ok (.iload_n 1, 1) := by decide +kernel
theorem d_7_20_5 : decode prog_7_method_20_code 5 = .ok (.aload_n 0, 1) := by decide +kernel
theorem d_7_20_6 : decode prog_7_method_20_code 6 = .ok (.getfield 44, 3) := by decide +kernel
theorem d_7_20_9 : decode prog_7_method_20_code 9 = .ok (.if_icmp .ge 25, 3) := by decide +kernel
theorem d_7_20_12 : decode prog_7_method_20_code 12 = .ok (.aload_n 0, 1) := by decide +kernel
theorem d_7_20_13 : decode prog_7_method_20_code 13 = .ok (.getfield 40, 3) := by decide +kernel
theorem d_7_20_16 : decode prog_7_method_20_code 16 = .ok (.iload_n 1, 1) := by decide +kernel
theorem d_7_20_17 : decode prog_7_method_20_code 17 = .ok (.baload, 1) := by decide +kernel
theorem d_7_20_18 : decode prog_7_method_20_code 18 = .ok (.ifCond .ne 12, 3) := by decide +kernel
theorem d_7_20_21 : decode prog_7_method_20_code 21 = .ok (.aload_n 0, 1) := by decide +kernel
theorem d_7_20_22 : decode prog_7_method_20_code 22 = .ok (.getfield 37, 3) := by decide +kernel
theorem d_7_20_25 : decode prog_7_method_20_code 25 = .ok (.iload_n 1, 1) := by decide +kernel
theorem d_7_20_26 : decode prog_7_method_20_code 26 = .ok (.iaload, 1) := by decide +kernel
theorem d_7_20_27 : decode prog_7_method_20_code 27 = .ok (.ifCond .lt 7, 3) := by decide +kernel
theorem d_7_20_30 : decode prog_7_method_20_code 30 = .ok (.iconst 1, 1) := by decide +kernel
theorem d_7_20_31 : decode prog_7_method_20_code 31 = .ok (.goto 4, 3) := by decide +kernel
theorem d_7_20_34 : decode prog_7_method_20_code 34 = .ok (.iconst 0, 1) := by decide +kernel
theorem d_7_20_35 : decode prog_7_method_20_code 35 = .ok (.ireturn, 1) := by decide +kernel
theorem d_7_21_0 : decode prog_7_method_21_code 0 = .ok (.iload_n 1, 1) := by decide +kernel
theorem d_7_21_1 : decode prog_7_method_21_code 1 = .ok (.ifCond .lt 34, 3) := by decide +kernel
theorem d_7_21_4 : decode prog_7_method_21_code 4 = .ok (.iload_n 1, 1) := by decide +kernel
theorem d_7_21_5 : decode prog_7_method_21_code 5 = .ok (.aload_n 0, 1) := by decide +kernel
theorem d_7_21_6 : decode prog_7_method_21_code 6 = .ok (.getfield 44, 3) := by decide +kernel
theorem d_7_21_9 : decode prog_7_method_21_code 9 = .ok (.if_icmp .ge 26, 3) := by decide +kernel
theorem d_7_21_12 : decode prog_7_method_21_code 12 = .ok (.aload_n 0, 1) := by decide +kernel
theorem d_7_21_13 : decode prog_7_method_21_code 13 = .ok (.getfield 15, 3) := by decide +kernel
theorem d_7_21_16 : decode prog_7_method_21_code 16 = .ok (.iload_n 1, 1) := by decide +kernel
theorem d_7_21_17 : decode prog_7_method_21_code 17 = .ok (.iaload, 1) := by decide +kernel
theorem d_7_21_18 : decode prog_7_method_21_code 18 = .ok (.iconst 3, 1) := by decide +kernel
theorem d_7_21_19 : decode prog_7_method_21_code 19 = .ok (.if_icmp .ne 16, 3) := by decide +kernel
theorem d_7_21_22 : decode prog_7_method_21_code 22 = .ok (.aload_n 0, 1) := by decide +kernel
theorem d_7_21_23 : decode prog_7_method_21_code 23 = .ok (.getfield 19, 3) := by decide +kernel
theorem d_7_21_26 : decode prog_7_method_21_code 26 = .ok (.iload_n 1, 1) := by decide +kernel
theorem d_7_21_27 : decode prog_7_method_21_code 27 = .ok (.iaload, 1) := by decide +kernel
theorem d_7_21_28 : decode prog_7_method_21_code 28 = .ok (.ifCond .eq 7, 3) := by decide +kernel
theorem d_7_21_31 : decode prog_7_method_21_code 31 = .ok (.iconst 1, 1) := by decide +kernel
theorem d_7_21_32 : decode prog_7_method_21_code 32 = .ok (.goto 4, 3) := by decide +kernel
theorem d_7_21_35 : decode prog_7_method_21_code 35 = .ok (.iconst 0, 1) := by decide +kernel
theorem d_7_21_36 : decode prog_7_method_21_code 36 = .ok (.ireturn, 1) := by decide +kernel
theorem d_7_22_0 : decode prog_7_method_22_code 0 = .ok (.aload_n 0, 1) := by decide +kernel
theorem d_7_22_1 : decode prog_7_method_22_code 1 = .ok (.iload_n 1, 1) := by decide +kernel
theorem d_7_22_2 : decode prog_7_method_22_code 2 = .ok (.invokevirtual 48, 3) := by decide +kernel
theorem d_7_22_5 : decode prog_7_method_22_code 5 = .ok (.istore_n 2, 1) := by decide +kernel
theorem d_7_22_6 : decode prog_7_method_22_code 6 = .ok (.iload_n 2, 1) := by decide +kernel
theorem d_7_22_7 : decode prog_7_method_22_code 7 = .ok (.iconst 2, 1) := by decide +kernel
theorem d_7_22_8 : decode prog_7_method_22_code 8 = .ok (.if_icmp .eq 9, 3) := by decide +kernel
theorem d_7_22_11 : decode prog_7_method_22_code 11 = .ok (.iload_n 2, 1) := by decide +kernel
theorem d_7_22_12 : decode prog_7_method_22_code 12 = .ok (.bipush 7, 2) := by decide +kernel
theorem d_7_22_14 : decode prog_7_method_22_code 14 = .ok (.if_icmp .ne 7, 3) := by decide +kernel
theorem d_7_22_17 : decode prog_7_method_22_code 17 = .ok (.iconst 1, 1) := by decide +kernel
theorem d_7_22_18 : decode prog_7_method_22_code 18 = .ok (.goto 4, 3) := by decide +kernel
theorem d_7_22_21 : decode prog_7_method_22_code 21 = .ok (.iconst 0, 1) := by decide +kernel
theorem d_7_22_22 : decode prog_7_method_22_code 22 = .ok (.ireturn, 1) := by decide +kernel
theorem d_7_23_0 : decode prog_7_method_23_code 0 = .ok (.aload_n 0, 1) := by decide +kernel
theorem d_7_23_1 : decode prog_7_method_23_code 1 = .ok (.iload_n 1, 1) := by decide +kernel
