theorem d_7_8_19 : decode prog_7_method_8_code 19 = .ok (.return_, 1) := by decide +kernel
theorem d_7_9_0 : decode prog_7_method_9_code 0 = .ok (.iload_n 1, 1) := by decide +kernel
theorem d_7_9_1 : decode prog_7_method_9_code 1 = .ok (.ifCond .lt 18, 3) := by decide +kernel
theorem d_7_9_4 : decode prog_7_method_9_code 4 = .ok (.iload_n 1, 1) := by decide +kernel
theorem d_7_9_5 : decode prog_7_method_9_code 5 = .ok (.aload_n 0, 1) := by decide +kernel
theorem d_7_9_6 : decode prog_7_method_9_code 6 = .ok (.getfield 44, 3) := by decide +kernel
theorem d_7_9_9 : decode prog_7_method_9_code 9 = .ok (.if_icmp .ge 10, 3) := by decide +kernel
theorem d_7_9_12 : decode prog_7_method_9_code 12 = .ok (.aload_n 0, 1) := by decide +kernel
theorem d_7_9_13 : decode prog_7_method_9_code 13 = .ok (.getfield 37, 3) := by decide +kernel
theorem d_7_9_16 : decode prog_7_method_9_code 16 = .ok (.iload_n 1, 1) := by decide +kernel
theorem d_7_9_17 : decode prog_7_method_9_code 17 = .ok (.iload_n 2, 1) := by decide +kernel
theorem d_7_9_18 : decode prog_7_method_9_code 18 = .ok (.iastore, 1) := by decide +kernel
theorem d_7_9_19 : decode prog_7_method_9_code 19 = .ok (.return_, 1) := by decide +kernel
theorem d_8_10_0 : decode prog_8_method_10_code 0 = .ok (.iload_n 0, 1) := by decide +kernel
theorem d_8_10_1 : decode prog_8_method_10_code 1 = .ok (.bipush 97, 2) := by decide +kernel
theorem d_8_10_3 : decode prog_8_method_10_code 3 = .ok (.if_icmp .lt 13, 3) := by decide +kernel
theorem d_8_10_6 : decode prog_8_method_10_code 6 = .ok (.iload_n 0, 1) := by decide +kernel
theorem d_8_10_7 : decode prog_8_method_10_code 7 = .ok (.bipush 122, 2) := by decide +kernel
theorem d_8_10_9 : decode prog_8_method_10_code 9 = .ok (.if_icmp .gt 7, 3) := by decide +kernel
theorem d_8_10_12 : decode prog_8_method_10_code 12 = .ok (.iconst 1, 1) := by decide +kernel
theorem d_8_10_13 : decode prog_8_method_10_code 13 = .ok (.goto 4, 3) := by decide +kernel
theorem d_8_10_16 : decode prog_8_method_10_code 16 = .ok (.iconst 0, 1) := by decide +kernel
theorem d_8_10_17 : decode prog_8_method_10_code 17 = .ok (.ireturn, 1) := by decide +kernel
theorem d_8_11_0 : decode prog_8_method_11_code 0 = .ok (.iload_n 0, 1) := by decide +kernel
theorem d_8_11_1 : decode prog_8_method_11_code 1 = .ok (.bipush 48, 2) := by decide +kernel
theorem d_8_11_3 : decode prog_8_method_11_code 3 = .ok (.if_icmp .lt 13, 3) := by decide +kernel
theorem d_8_11_6 : decode prog_8_method_11_code 6 = .ok (.iload_n 0, 1) := by decide +kernel
theorem d_8_11_7 : decode prog_8_method_11_code 7 = .ok (.bipush 57, 2) := by decide +kernel
theorem d_8_11_9 : decode prog_8_method_11_code 9 = .ok (.if_icmp .gt 7, 3) := by decide +kernel
theorem d_8_11_12 : decode prog_8_method_11_code 12 = .ok (.iconst 1, 1) := by decide +kernel
theorem d_8_11_13 : decode prog_8_method_11_code 13 = .ok (.goto 4, 3) := by decide +kernel
theorem d_8_11_16 : decode prog_8_method_11_code 16 = .ok (.iconst 0, 1) := by decide +kernel
theorem d_8_11_17 : decode prog_8_method_11_code 17 = .ok (.ireturn, 1) := by decide +kernel
theorem d_8_16_0 : decode prog_8_method_16_code 0 = .ok (.aload_n 0, 1) := by decide +kernel
theorem d_8_16_1 : decode prog_8_method_16_code 1 = .ok (.getfield 35, 3) := by decide +kernel
theorem d_8_16_4 : decode prog_8_method_16_code 4 = .ok (.ireturn, 1) := by decide +kernel
theorem d_8_17_0 : decode prog_8_method_17_code 0 = .ok (.aload_n 0, 1) := by decide +kernel
theorem d_8_17_1 : decode prog_8_method_17_code 1 = .ok (.getfield 35, 3) := by decide +kernel
theorem d_8_17_4 : decode prog_8_method_17_code 4 = .ok (.bipush (-2), 2) := by decide +kernel
theorem d_8_17_6 : decode prog_8_method_17_code 6 = .ok (.if_icmp .ne 26, 3) := by decide +kernel
theorem d_8_17_9 : decode prog_8_method_17_code 9 = .ok (.aload_n 0, 1) := by decide +kernel
theorem d_8_17_10 : decode prog_8_method_17_code 10 = .ok (.getfield 29, 3) := by decide +kernel
theorem d_8_17_13 : decode prog_8_method_17_code 13 = .ok (.aload_n 0, 1) := by decide +kernel
theorem d_8_17_14 : decode prog_8_method_17_code 14 = .ok (.getfield 25, 3) := by decide +kernel
theorem d_8_17_17 : decode prog_8_method_17_code 17 = .ok (.if_icmp .ge 15, 3) := by decide +kernel
theorem d_8_17_20 : decode prog_8_method_17_code 20 = .ok (.aload_n 0, 1) := by decide +kernel
theorem d_8_17_21 : decode prog_8_method_17_code 21 = .ok (.getfield 9, 3) := by decide +kernel
theorem d_8_17_24 : decode prog_8_method_17_code 24 = .ok (.aload_n 0, 1) := by decide +kernel
theorem d_8_17_25 : decode prog_8_method_17_code 25 = .ok (.getfield 29, 3) := by decide +kernel
theorem d_8_17_28 : decode prog_8_method_17_code 28 = .ok (.iaload, 1) := by decide +kernel
theorem d_8_17_29 : decode prog_8_method_17_code 29 = .ok (.goto 5, 3) := by decide +kernel
theorem d_8_17_32 : decode prog_8_method_17_code 32 = .ok (.bipush (-2), 2) := by decide +kernel
theorem d_8_17_34 : decode prog_8_method_17_code 34 = .ok (.ireturn, 1) := by decide +kernel
theorem d_8_18_0 : decode prog_8_method_18_code 0 = .ok (.aload_n 0, 1) := by decide +kernel
theorem d_8_18_1 : decode prog_8_method_18_code 1 = .ok (.getfield 35, 3) := by decide +kernel
theorem d_8_18_4 : decode prog_8_method_18_code 4 = .ok (.bipush (-2), 2) := by decide +kernel
theorem d_8_18_6 : decode prog_8_method_18_code 6 = .ok (.if_icmp .ne 30, 3) := by decide +kernel
theorem d_8_18_9 : decode prog_8_method_18_code 9 = .ok (.aload_n 0, 1) := by decide +kernel
theorem d_8_18_10 : decode prog_8_method_18_code 10 = .ok (.getfield 29, 3) := by decide +kernel
theorem d_8_18_13 : decode prog_8_method_18_code 13 = .ok (.iconst 1, 1) := by decide +kernel
theorem d_8_18_14 : decode prog_8_method_18_code 14 = .ok (.iadd, 1) := by decide +kernel
theorem d_8_18_15 : decode prog_8_method_18_code 15 = .ok (.aload_n 0, 1) := by decide +kernel
theorem d_8_18_16 : decode prog_8_method_18_code 16 = .ok (.getfield 25, 3) := by decide +kernel
theorem d_8_18_19 : decode prog_8_method_18_code 19 = .ok (.if_icmp .ge 17, 3) := by decide +kernel
theorem d_8_18_22 : decode prog_8_method_18_code 22 = .ok (.aload_n 0, 1) := by decide +kernel
theorem d_8_18_23 : decode prog_8_method_18_code 23 = .ok (.getfield 9, 3) := by decide +kernel
theorem d_8_18_26 : decode prog_8_method_18_code 26 = .ok (.aload_n 0, 1) := by decide +kernel
theorem d_8_18_27 : decode prog_8_method_18_code 27 = .ok (.getfield 29, 3) := by decide +kernel
theorem d_8_18_30 : decode prog_8_method_18_code 30 = .ok (.iconst 1, 1) := by decide +kernel
theorem d_8_18_31 : decode prog_8_method_18_code 31 = .ok (.iadd, 1) := by decide +kernel
theorem d_8_18_32 : decode prog_8_method_18_code 32 = .ok (.iaload, 1) := by decide +kernel
theorem d_8_18_33 : decode prog_8_method_18_code 33 = .ok (.goto 5, 3) := by decide +kernel
theorem d_8_18_36 : decode prog_8_method_18_code 36 = .ok (.bipush (-2), 2) := by decide +kernel
theorem d_8_18_38 : decode prog_8_method_18_code 38 = .ok (.ireturn, 1) := by decide +kernel
theorem d_8_19_0 : decode prog_8_method_19_code 0 = .ok (.aload_n 0, 1) := by decide +kernel
theorem d_8_19_1 : decode prog_8_method_19_code 1 = .ok (.getfield 29, 3) := by decide +kernel
theorem d_8_19_4 : decode prog_8_method_19_code 4 = .ok (.aload_n 0, 1) := by decide +kernel
theorem d_8_19_5 : decode prog_8_method_19_code 5 = .ok (.getfield 25, 3) := by decide +kernel
theorem d_8_19_8 : decode prog_8_method_19_code 8 = .ok (.if_icmp .ge 15, 3) := by decide +kernel
theorem d_8_19_11 : decode prog_8_method_19_code 11 = .ok (.aload_n 0, 1) := by decide +kernel
theorem d_8_19_12 : decode prog_8_method_19_code 12 = .ok (.getfield 15, 3) := by decide +kernel
theorem d_8_19_15 : decode prog_8_method_19_code 15 = .ok (.aload_n 0, 1) := by decide +kernel
theorem d_8_19_16 : decode prog_8_method_19_code 16 = .ok (.getfield 29, 3) := by decide +kernel
theorem d_8_19_19 : decode prog_8_method_19_code 19 = .ok (.iaload, 1) := by decide +kernel
theorem d_8_19_20 : decode prog_8_method_19_code 20 = .ok (.goto 4, 3) := by decide +kernel
theorem d_8_19_23 : decode prog_8_method_19_code 23 = .ok (.iconst 0, 1) := by decide +kernel
theorem d_8_19_24 : decode prog_8_method_19_code 24 = .ok (.ireturn, 1) := by decide +kernel
theorem d_8_20_0 : decode prog_8_method_20_code 0 = .ok (.aload_n 0, 1) := by decide +kernel
theorem d_8_20_1 : decode prog_8_method_20_code 1 = .ok (.getfield 29, 3) := by decide +kernel
theorem d_8_20_4 : decode prog_8_method_20_code 4 = .ok (.aload_n 0, 1) := by decide +kernel
theorem d_8_20_5 : decode prog_8_method_20_code 5 = .ok (.getfield 25, 3) := by decide +kernel
theorem d_8_20_8 : decode prog_8_method_20_code 8 = .ok (.if_icmp .ge 15, 3) := by decide +kernel
theorem d_8_20_11 : decode prog_8_method_20_code 11 = .ok (.aload_n 0, 1) := by decide +kernel
theorem d_8_20_12 : decode prog_8_method_20_code 12 = .ok (.getfield 18, 3) := by decide +kernel
theorem d_8_20_15 : decode prog_8_method_20_code 15 = .ok (.aload_n 0, 1) := by decide +kernel
theorem d_8_20_16 : decode prog_8_method_20_code 16 = .ok (.getfield 29, 3) := by decide +kernel
theorem d_8_20_19 : decode prog_8_method_20_code 19 = .ok (.laload, 1) := by decide +kernel
theorem d_8_20_20 : decode prog_8_method_20_code 20 = .ok (.goto 4, 3) := by decide +kernel
theorem d_8_20_23 : decode prog_8_method_20_code 23 = .ok (.lconst 0, 1) := by decide +kernel
theorem d_8_20_24 : decode prog_8_method_20_code 24 = .ok (.lreturn, 1) := by decide +kernel
theorem d_8_21_0 : decode prog_8_method_21_code 0 = .ok (.aload_n 0, 1) := by decide +kernel
theorem d_8_21_1 : decode prog_8_method_21_code 1 = .ok (.invokevirtual 106, 3) := by decide +kernel
theorem d_8_21_4 : decode prog_8_method_21_code 4 = .ok (.iload_n 1, 1) := by decide +kernel
theorem d_8_21_5 : decode prog_8_method_21_code 5 = .ok (.if_icmp .ne 7, 3) := by decide +kernel
theorem d_8_21_8 : decode prog_8_method_21_code 8 = .ok (.iconst 1, 1) := by decide +kernel
theorem d_8_21_9 : decode prog_8_method_21_code 9 = .ok (.goto 4, 3) := by decide +kernel
theorem d_8_21_12 : decode prog_8_method_21_code 12 = .ok (.iconst 0, 1) := by decide +kernel
theorem d_8_21_13 : decode prog_8_method_21_code 13 = .ok (.ireturn, 1) := by decide +kernel
theorem d_8_22_0 : decode prog_8_method_22_code 0 = .ok (.aload_n 0, 1) := by decide +kernel
theorem d_8_22_1 : decode prog_8_method_22_code 1 = .ok (.getfield 29, 3) := by decide +kernel
theorem d_8_22_4 : decode prog_8_method_22_code 4 = .ok (.aload_n 0, 1) := by decide +kernel
theorem d_8_22_5 : decode prog_8_method_22_code 5 = .ok (.getfield 25, 3) := by decide +kernel
theorem d_8_22_8 : decode prog_8_method_22_code 8 = .ok (.iconst 1, 1) := by decide +kernel
theorem d_8_22_9 : decode prog_8_method_22_code 9 = .ok (.isub, 1) := by decide +kernel
theorem d_8_22_10 : decode prog_8_method_22_code 10 = .ok (.if_icmp .ge 13, 3) := by decide +kernel
theorem d_8_22_13 : decode prog_8_method_22_code 13 = .ok (.aload_n 0, 1) := by decide +kernel
theorem d_8_22_14 : decode prog_8_method_22_code 14 = .ok (.dup, 1) := by decide +kernel
theorem d_8_22_15 : decode prog_8_method_22_code 15 = .ok (.getfield 29, 3) := by decide +kernel
theorem d_8_22_18 : decode prog_8_method_22_code 18 = .ok (.iconst 1, 1) := by decide +kernel
theorem d_8_22_19 : decode prog_8_method_22_code 19 = .ok (.iadd, 1) := by decide +kernel
theorem d_8_22_20 : decode prog_8_method_22_code 20 = .ok (.putfield 29, 3) := by decide +kernel
theorem d_8_22_23 : decode prog_8_method_22_code 23 = .ok (.return_, 1) := by decide +kernel
theorem d_8_23_0 : decode prog_8_method_23_code 0 = .ok (.aload_n 0, 1) := by decide +kernel
theorem d_8_23_1 : decode prog_8_method_23_code 1 = .ok (.invokevirtual 106, 3) := by decide +kernel
theorem d_8_23_4 : decode prog_8_method_23_code 4 = .ok (.iload_n 1, 1) := by decide +kernel
theorem d_8_23_5 : decode prog_8_method_23_code 5 = .ok (.if_icmp .eq 5, 3) := by decide +kernel
theorem d_8_23_8 : decode prog_8_method_23_code 8 = .ok (.iconst 0, 1) := by decide +kernel
theorem d_8_23_9 : decode prog_8_method_23_code 9 = .ok (.ireturn, 1) := by decide +kernel
theorem d_8_23_10 : decode prog_8_method_23_code 10 = .ok (.aload_n 0, 1) := by decide +kernel
theorem d_8_23_11 : decode prog_8_method_23_code 11 = .ok (.invokevirtual 109, 3) := by decide +kernel
theorem d_8_23_14 : decode prog_8_method_23_code 14 = .ok (.iconst 1, 1) := by decide +kernel
theorem d_8_23_15 : decode prog_8_method_23_code 15 = .ok (.ireturn, 1) := by decide +kernel
theorem d_8_24_0 : decode prog_8_method_24_code 0 = .ok (.aload_n 0, 1) := by decide +kernel
theorem d_8_24_1 : decode prog_8_method_24_code 1 = .ok (.invokevirtual 106, 3) := by decide +kernel
theorem d_8_24_4 : decode prog_8_method_24_code 4 = .ok (.iload_n 1, 1) := by decide +kernel
theorem d_8_24_5 : decode prog_8_method_24_code 5 = .ok (.if_icmp .ne 10, 3) := by decide +kernel
theorem d_8_24_8 : decode prog_8_method_24_code 8 = .ok (.aload_n 0, 1) := by decide +kernel
theorem d_8_24_9 : decode prog_8_method_24_code 9 = .ok (.invokevirtual 109, 3) := by decide +kernel
theorem d_8_24_12 : decode prog_8_method_24_code 12 = .ok (.goto 7, 3) := by decide +kernel
theorem d_8_24_15 : decode prog_8_method_24_code 15 = .ok (.aload_n 0, 1) := by decide +kernel
theorem d_8_24_16 : decode prog_8_method_24_code 16 = .ok (.invokevirtual 112, 3) := by decide +kernel
theorem d_8_24_19 : decode prog_8_method_24_code 19 = .ok (.return_, 1) := by decide +kernel
theorem d_8_25_0 : decode prog_8_method_25_code 0 = .ok (.aload_n 0, 1) := by decide +kernel
theorem d_8_25_1 : decode prog_8_method_25_code 1 = .ok (.getfield 35, 3) := by decide +kernel
theorem d_8_25_4 : decode prog_8_method_25_code 4 = .ok (.bipush (-2), 2) := by decide +kernel
theorem d_8_25_6 : decode prog_8_method_25_code 6 = .ok (.if_icmp .ne 27, 3) := by decide +kernel
theorem d_8_25_9 : decode prog_8_method_25_code 9 = .ok (.aload_n 0, 1) := by decide +kernel
theorem d_8_25_10 : decode prog_8_method_25_code 10 = .ok (.getfield 29, 3) := by decide +kernel
theorem d_8_25_13 : decode prog_8_method_25_code 13 = .ok (.aload_n 0, 1) := by decide +kernel
theorem d_8_25_14 : decode prog_8_method_25_code 14 = .ok (.getfield 25, 3) := by decide +kernel
theorem d_8_25_17 : decode prog_8_method_25_code 17 = .ok (.if_icmp .ge 16, 3) := by decide +kernel
theorem d_8_25_20 : decode prog_8_method_25_code 20 = .ok (.aload_n 0, 1) := by decide +kernel
theorem d_8_25_21 : decode prog_8_method_25_code 21 = .ok (.aload_n 0, 1) := by decide +kernel
theorem d_8_25_22 : decode prog_8_method_25_code 22 = .ok (.getfield 15, 3) := by decide +kernel
theorem d_8_25_25 : decode prog_8_method_25_code 25 = .ok (.aload_n 0, 1) := by decide +kernel
theorem d_8_25_26 : decode prog_8_method_25_code 26 = .ok (.getfield 29, 3) := by decide +kernel
theorem d_8_25_29 : decode prog_8_method_25_code 29 = .ok (.iaload, 1) := by decide +kernel
theorem d_8_25_30 : decode prog_8_method_25_code 30 = .ok (.putfield 35, 3) := by decide +kernel
theorem d_8_25_33 : decode prog_8_method_25_code 33 = .ok (.return_, 1) := by decide +kernel
theorem d_8_26_0 : decode prog_8_method_26_code 0 = .ok (.aload_n 0, 1) := by decide +kernel
theorem d_8_26_1 : decode prog_8_method_26_code 1 = .ok (.getfield 32, 3) := by decide +kernel
theorem d_8_26_4 : decode prog_8_method_26_code 4 = .ok (.bipush 20, 2) := by decide +kernel
theorem d_8_26_6 : decode prog_8_method_26_code 6 = .ok (.if_icmp .lt 7, 3) := by decide +kernel
theorem d_8_26_9 : decode prog_8_method_26_code 9 = .ok (.aload_n 0, 1) := by decide +kernel
theorem d_8_26_10 : decode prog_8_method_26_code 10 = .ok (.invokevirtual 112, 3) := by decide +kernel
theorem d_8_26_13 : decode prog_8_method_26_code 13 = .ok (.aload_n 0, 1) := by decide +kernel
theorem d_8_26_14 : decode prog_8_method_26_code 14 = .ok (.iload_n 1, 1) := by decide +kernel
theorem d_8_26_15 : decode prog_8_method_26_code 15 = .ok (.invokevirtual 115, 3) := by decide +kernel
theorem d_8_26_18 : decode prog_8_method_26_code 18 = .ok (.aload_n 0, 1) := by decide +kernel
theorem d_8_26_19 : decode prog_8_method_26_code 19 = .ok (.dup, 1) := by decide +kernel
theorem d_8_26_20 : decode prog_8_method_26_code 20 = .ok (.getfield 32, 3) := by decide +kernel
theorem d_8_26_23 : decode prog_8_method_26_code 23 = .ok (.iconst 1, 1) := by decide +kernel
theorem d_8_26_24 : decode prog_8_method_26_code 24 = .ok (.iadd, 1) := by decide +kernel
theorem d_8_26_25 : decode prog_8_method_26_code 25 = .ok (.putfield 32, 3) := by decide +kernel
theorem d_8_26_28 : decode prog_8_method_26_code 28 = .ok (.return_, 1) := by decide +kernel
theorem d_8_27_0 : decode prog_8_method_27_code 0 = .ok (.aload_n 0, 1) := by decide +kernel
theorem d_8_27_1 : decode prog_8_method_27_code 1 = .ok (.dup, 1) := by decide +kernel
theorem d_8_27_2 : decode prog_8_method_27_code 2 = .ok (.getfield 32, 3) := by decide +kernel
theorem d_8_27_5 : decode prog_8_method_27_code 5 = .ok (.iconst 1, 1) := by decide +kernel
theorem d_8_27_6 : decode prog_8_method_27_code 6 = .ok (.isub, 1) := by decide +kernel
theorem d_8_27_7 : decode prog_8_method_27_code 7 = .ok (.putfield 32, 3) := by decide +kernel
theorem d_8_27_10 : decode prog_8_method_27_code 10 = .ok (.return_, 1) := by decide +kernel
theorem d_8_28_0 : decode prog_8_method_28_code 0 = .ok (.aload_n 0, 1) := by decide +kernel
theorem d_8_28_1 : decode prog_8_method_28_code 1 = .ok (.iload_n 1, 1) := by decide +kernel
theorem d_8_28_2 : decode prog_8_method_28_code 2 = .ok (.invokevirtual 115, 3) := by decide +kernel
theorem d_8_28_5 : decode prog_8_method_28_code 5 = .ok (.aload_n 0, 1) := by decide +kernel
theorem d_8_28_6 : decode prog_8_method_28_code 6 = .ok (.dup, 1) := by decide +kernel
theorem d_8_28_7 : decode prog_8_method_28_code 7 = .ok (.getfield 32, 3) := by decide +kernel
theorem d_8_28_10 : decode prog_8_method_28_code 10 = .ok (.iconst 1, 1) := by decide +kernel
theorem d_8_28_11 : decode prog_8_method_28_code 11 = .ok (.isub, 1) := by decide +kernel
theorem d_8_28_12 : decode prog_8_method_28_code 12 = .ok (.putfield 32, 3) := by decide +kernel
theorem d_8_28_15 : decode prog_8_method_28_code 15 = .ok (.return_, 1) := by decide +kernel
theorem d_8_29_0 : decode prog_8_method_29_code 0 = .ok (.aload_n 0, 1) := by decide +kernel
theorem d_8_29_1 : decode prog_8_method_29_code 1 = .ok (.bipush 27, 2) := by decide +kernel
theorem d_8_29_3 : decode prog_8_method_29_code 3 = .ok (.invokevirtual 119, 3) := by decide +kernel
theorem d_8_29_6 : decode prog_8_method_29_code 6 = .ok (.ifCond .ne 5, 3) := by decide +kernel
theorem d_8_29_9 : decode prog_8_method_29_code 9 = .ok (.iconst 0, 1) := by decide +kernel
theorem d_8_29_10 : decode prog_8_method_29_code 10 = .ok (.ireturn, 1) := by decide +kernel
theorem d_8_29_11 : decode prog_8_method_29_code 11 = .ok (.aload_n 0, 1) := by decide +kernel
theorem d_8_29_12 : decode prog_8_method_29_code 12 = .ok (.invokevirtual 122, 3) := by decide +kernel
theorem d_8_29_15 : decode prog_8_method_29_code 15 = .ok (.bipush 36, 2) := by decide +kernel
theorem d_8_29_17 : decode prog_8_method_29_code 17 = .ok (.if_icmp .eq 18, 3) := by decide +kernel
theorem d_8_29_20 : decode prog_8_method_29_code 20 = .ok (.aload_n 0, 1) := by decide +kernel
theorem d_8_29_21 : decode prog_8_method_29_code 21 = .ok (.invokevirtual 122, 3) := by decide +kernel
theorem d_8_29_24 : decode prog_8_method_29_code 24 = .ok (.bipush 47, 2) := by decide +kernel
theorem d_8_29_26 : decode prog_8_method_29_code 26 = .ok (.if_icmp .ne 7, 3) := by decide +kernel
theorem d_8_29_29 : decode prog_8_method_29_code 29 = .ok (.iconst 1, 1) := by decide +kernel
theorem d_8_29_30 : decode prog_8_method_29_code 30 = .ok (.goto 4, 3) := by decide +kernel
theorem d_8_29_33 : decode prog_8_method_29_code 33 = .ok (.iconst 0, 1) := by decide +kernel
theorem d_8_29_34 : decode prog_8_method_29_code 34 = .ok (.ireturn, 1) := by decide +kernel
theorem d_8_29_35 : decode prog_8_method_29_code 35 = .ok (.iconst 0, 1) := by decide +kernel
theorem d_8_29_36 : decode prog_8_method_29_code 36 = .ok (.istore_n 1, 1) := by decide +kernel
theorem d_8_29_37 : decode prog_8_method_29_code 37 = .ok (.aload_n 0, 1) := by decide +kernel
theorem d_8_29_38 : decode prog_8_method_29_code 38 = .ok (.getfield 29, 3) := by decide +kernel
theorem d_8_29_41 : decode prog_8_method_29_code 41 = .ok (.iconst 1, 1) := by decide +kernel
theorem d_8_29_42 : decode prog_8_method_29_code 42 = .ok (.iadd, 1) := by decide +kernel
theorem d_8_29_43 : decode prog_8_method_29_code 43 = .ok (.istore_n 2, 1) := by decide +kernel
theorem d_8_29_44 : decode prog_8_method_29_code 44 = .ok (.iload_n 2, 1) := by decide +kernel
theorem d_8_29_45 : decode prog_8_method_29_code 45 = .ok (.aload_n 0, 1) := by decide +kernel
theorem d_8_29_46 : decode prog_8_method_29_code 46 = .ok (.getfield 25, 3) := by decide +kernel
theorem d_8_29_49 : decode prog_8_method_29_code 49 = .ok (.iconst 1, 1) := by decide +kernel
theorem d_8_29_50 : decode prog_8_method_29_code 50 = .ok (.isub, 1) := by decide +kernel
theorem d_8_29_51 : decode prog_8_method_29_code 51 = .ok (.if_icmp .ge 63, 3) := by decide +kernel
theorem d_8_29_54 : decode prog_8_method_29_code 54 = .ok (.aload_n 0, 1) := by decide +kernel
theorem d_8_29_55 : decode prog_8_method_29_code 55 = .ok (.getfield 9, 3) := by decide +kernel
theorem d_8_29_58 : decode prog_8_method_29_code 58 = .ok (.iload_n 2, 1) := by decide +kernel
theorem d_8_29_59 : decode prog_8_method_29_code 59 = .ok (.iaload, 1) := by decide +kernel
theorem d_8_29_60 : decode prog_8_method_29_code 60 = .ok (.bipush 36, 2) := by decide +kernel
theorem d_8_29_62 : decode prog_8_method_29_code 62 = .ok (.if_icmp .ne 9, 3) := by decide +kernel
theorem d_8_29_65 : decode prog_8_method_29_code 65 = .ok (.iinc 1 1, 3) := by decide +kernel
theorem d_8_29_68 : decode prog_8_method_29_code 68 = .ok (.goto 17, 3) := by decide +kernel
theorem d_8_29_71 : decode prog_8_method_29_code 71 = .ok (.aload_n 0, 1) := by decide +kernel
theorem d_8_29_72 : decode prog_8_method_29_code 72 = .ok (.getfield 9, 3) := by decide +kernel
theorem d_8_29_75 : decode prog_8_method_29_code 75 = .ok (.iload_n 2, 1) := by decide +kernel
theorem d_8_29_76 : decode prog_8_method_29_code 76 = .ok (.iaload, 1) := by decide +kernel
theorem d_8_29_77 : decode prog_8_method_29_code 77 = .ok (.bipush 37, 2) := by decide +kernel
theorem d_8_29_79 : decode prog_8_method_29_code 79 = .ok (.if_icmp .ne 6, 3) := by decide +kernel
theorem d_8_29_82 : decode prog_8_method_29_code 82 = .ok (.iinc 1 (-1), 3) := by decide +kernel
theorem d_8_29_85 : decode prog_8_method_29_code 85 = .ok (.iload_n 1, 1) := by decide +kernel
theorem d_8_29_86 : decode prog_8_method_29_code 86 = .ok (.ifCond .ne 22, 3) := by decide +kernel
theorem d_8_29_89 : decode prog_8_method_29_code 89 = .ok (.aload_n 0, 1) := by decide +kernel
theorem d_8_29_90 : decode prog_8_method_29_code 90 = .ok (.getfield 9, 3) := by decide +kernel
theorem d_8_29_93 : decode prog_8_method_29_code 93 = .ok (.iload_n 2, 1) := by decide +kernel
theorem d_8_29_94 : decode prog_8_method_29_code 94 = .ok (.iconst 1, 1) := by decide +kernel
theorem d_8_29_95 : decode prog_8_method_29_code 95 = .ok (.iadd, 1) := by decide +kernel
theorem d_8_29_96 : decode prog_8_method_29_code 96 = .ok (.iaload, 1) := by decide +kernel
theorem d_8_29_97 : decode prog_8_method_29_code 97 = .ok (.bipush 47, 2) := by decide +kernel
theorem d_8_29_99 : decode prog_8_method_29_code 99 = .ok (.if_icmp .ne 7, 3) := by decide +kernel
theorem d_8_29_102 : decode prog_8_method_29_code 102 = .ok (.iconst 1, 1) := by decide +kernel
theorem d_8_29_103 : decode prog_8_method_29_code 103 = .ok (.goto 4, 3) := by decide +kernel
theorem d_8_29_106 : decode prog_8_method_29_code 106 = .ok (.iconst 0, 1) := by decide +kernel
theorem d_8_29_107 : decode prog_8_method_29_code 107 = .ok (.ireturn, 1) := by decide +kernel
theorem d_8_29_108 : decode prog_8_method_29_code 108 = .ok (.iinc 2 1, 3) := by decide +kernel
theorem d_8_29_111 : decode prog_8_method_29_code 111 = .ok (.goto (-67), 3) := by decide +kernel
theorem d_8_29_114 : decode prog_8_method_29_code 114 = .ok (.iconst 0, 1) := by decide +kernel
theorem d_8_29_115 : decode prog_8_method_29_code 115 = .ok (.ireturn, 1) := by decide +kernel
