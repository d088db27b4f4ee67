theorem d_10_31_1 : decode prog_10_method_31_code 1 = .ok (.ldc 181, 2) := by decide +kernel
theorem d_10_31_3 : decode prog_10_method_31_code 3 = .ok (.invokevirtual 102, 3) := by decide +kernel
theorem d_10_31_6 : decode prog_10_method_31_code 6 = .ok (.ifCond .eq 8, 3) := by decide +kernel
theorem d_10_31_9 : decode prog_10_method_31_code 9 = .ok (.aload_n 0, 1) := by decide +kernel
theorem d_10_31_10 : decode prog_10_method_31_code 10 = .ok (.invokevirtual 298, 3) := by decide +kernel
theorem d_10_31_13 : decode prog_10_method_31_code 13 = .ok (.ireturn, 1) := by decide +kernel
theorem d_10_31_14 : decode prog_10_method_31_code 14 = .ok (.aload_n 0, 1) := by decide +kernel
theorem d_10_31_15 : decode prog_10_method_31_code 15 = .ok (.ldc_w 301, 3) := by decide +kernel
theorem d_10_31_18 : decode prog_10_method_31_code 18 = .ok (.invokevirtual 102, 3) := by decide +kernel
theorem d_10_31_21 : decode prog_10_method_31_code 21 = .ok (.ifCond .eq 8, 3) := by decide +kernel
theorem d_10_31_24 : decode prog_10_method_31_code 24 = .ok (.aload_n 0, 1) := by decide +kernel
theorem d_10_31_25 : decode prog_10_method_31_code 25 = .ok (.invokevirtual 303, 3) := by decide +kernel
theorem d_10_31_28 : decode prog_10_method_31_code 28 = .ok (.ireturn, 1) := by decide +kernel
theorem d_10_31_29 : decode prog_10_method_31_code 29 = .ok (.aload_n 0, 1) := by decide +kernel
theorem d_10_31_30 : decode prog_10_method_31_code 30 = .ok (.ldc_w 306, 3) := by decide +kernel
theorem d_10_31_33 : decode prog_10_method_31_code 33 = .ok (.invokevirtual 102, 3) := by decide +kernel
theorem d_10_31_36 : decode prog_10_method_31_code 36 = .ok (.ifCond .eq 8, 3) := by decide +kernel
theorem d_10_31_39 : decode prog_10_method_31_code 39 = .ok (.aload_n 0, 1) := by decide +kernel
theorem d_10_31_40 : decode prog_10_method_31_code 40 = .ok (.invokevirtual 308, 3) := by decide +kernel
theorem d_10_31_43 : decode prog_10_method_31_code 43 = .ok (.ireturn, 1) := by decide +kernel
theorem d_10_31_44 : decode prog_10_method_31_code 44 = .ok (.aload_n 0, 1) := by decide +kernel
theorem d_10_31_45 : decode prog_10_method_31_code 45 = .ok (.ldc_w 311, 3) := by decide +kernel
theorem d_10_31_48 : decode prog_10_method_31_code 48 = .ok (.invokevirtual 102, 3) := by decide +kernel
theorem d_10_31_51 : decode prog_10_method_31_code 51 = .ok (.ifCond .eq 8, 3) := by decide +kernel
theorem d_10_31_54 : decode prog_10_method_31_code 54 = .ok (.aload_n 0, 1) := by decide +kernel
theorem d_10_31_55 : decode prog_10_method_31_code 55 = .ok (.invokevirtual 313, 3) := by decide +kernel
theorem d_10_31_58 : decode prog_10_method_31_code 58 = .ok (.ireturn, 1) := by decide +kernel
theorem d_10_31_59 : decode prog_10_method_31_code 59 = .ok (.aload_n 0, 1) := by decide +kernel
theorem d_10_31_60 : decode prog_10_method_31_code 60 = .ok (.ldc_w 316, 3) := by decide +kernel
theorem d_10_31_63 : decode prog_10_method_31_code 63 = .ok (.invokevirtual 102, 3) := by decide +kernel
theorem d_10_31_66 : decode prog_10_method_31_code 66 = .ok (.ifCond .eq 8, 3) := by decide +kernel
theorem d_10_31_69 : decode prog_10_method_31_code 69 = .ok (.aload_n 0, 1) := by decide +kernel
theorem d_10_31_70 : decode prog_10_method_31_code 70 = .ok (.invokevirtual 318, 3) := by decide +kernel
theorem d_10_31_73 : decode prog_10_method_31_code 73 = .ok (.ireturn, 1) := by decide +kernel
theorem d_10_31_74 : decode prog_10_method_31_code 74 = .ok (.aload_n 0, 1) := by decide +kernel
theorem d_10_31_75 : decode prog_10_method_31_code 75 = .ok (.getfield 23, 3) := by decide +kernel
theorem d_10_31_78 : decode prog_10_method_31_code 78 = .ok (.aload_n 0, 1) := by decide +kernel
theorem d_10_31_79 : decode prog_10_method_31_code 79 = .ok (.getfield 58, 3) := by decide +kernel
theorem d_10_31_82 : decode prog_10_method_31_code 82 = .ok (.iaload, 1) := by decide +kernel
theorem d_10_31_83 : decode prog_10_method_31_code 83 = .ok (.iconst 1, 1) := by decide +kernel
theorem d_10_31_84 : decode prog_10_method_31_code 84 = .ok (.if_icmp .ne 10, 3) := by decide +kernel
theorem d_10_31_87 : decode prog_10_method_31_code 87 = .ok (.aload_n 0, 1) := by decide +kernel
theorem d_10_31_88 : decode prog_10_method_31_code 88 = .ok (.invokevirtual 321, 3) := by decide +kernel
theorem d_10_31_91 : decode prog_10_method_31_code 91 = .ok (.goto 13, 3) := by decide +kernel
theorem d_10_31_94 : decode prog_10_method_31_code 94 = .ok (.aload_n 0, 1) := by decide +kernel
theorem d_10_31_95 : decode prog_10_method_31_code 95 = .ok (.bipush 20, 2) := by decide +kernel
theorem d_10_31_97 : decode prog_10_method_31_code 97 = .ok (.aload_n 0, 1) := by decide +kernel
theorem d_10_31_98 : decode prog_10_method_31_code 98 = .ok (.getfield 58, 3) := by decide +kernel
theorem d_10_31_101 : decode prog_10_method_31_code 101 = .ok (.invokevirtual 187, 3) := by decide +kernel
theorem d_10_31_104 : decode prog_10_method_31_code 104 = .ok (.ireturn, 1) := by decide +kernel
theorem d_10_32_0 : decode prog_10_method_32_code 0 = .ok (.aload_n 0, 1) := by decide +kernel
theorem d_10_32_1 : decode prog_10_method_32_code 1 = .ok (.dup, 1) := by decide +kernel
theorem d_10_32_2 : decode prog_10_method_32_code 2 = .ok (.getfield 58, 3) := by decide +kernel
theorem d_10_32_5 : decode prog_10_method_32_code 5 = .ok (.iconst 1, 1) := by decide +kernel
theorem d_10_32_6 : decode prog_10_method_32_code 6 = .ok (.iadd, 1) := by decide +kernel
theorem d_10_32_7 : decode prog_10_method_32_code 7 = .ok (.putfield 58, 3) := by decide +kernel
theorem d_10_32_10 : decode prog_10_method_32_code 10 = .ok (.aload_n 0, 1) := by decide +kernel
theorem d_10_32_11 : decode prog_10_method_32_code 11 = .ok (.getfield 23, 3) := by decide +kernel
theorem d_10_32_14 : decode prog_10_method_32_code 14 = .ok (.aload_n 0, 1) := by decide +kernel
theorem d_10_32_15 : decode prog_10_method_32_code 15 = .ok (.getfield 58, 3) := by decide +kernel
theorem d_10_32_18 : decode prog_10_method_32_code 18 = .ok (.iaload, 1) := by decide +kernel
theorem d_10_32_19 : decode prog_10_method_32_code 19 = .ok (.iconst 1, 1) := by decide +kernel
theorem d_10_32_20 : decode prog_10_method_32_code 20 = .ok (.if_icmp .eq 8, 3) := by decide +kernel
theorem d_10_32_23 : decode prog_10_method_32_code 23 = .ok (.aload_n 0, 1) := by decide +kernel
theorem d_10_32_24 : decode prog_10_method_32_code 24 = .ok (.invokevirtual 106, 3) := by decide +kernel
theorem d_10_32_27 : decode prog_10_method_32_code 27 = .ok (.ireturn, 1) := by decide +kernel
theorem d_10_32_28 : decode prog_10_method_32_code 28 = .ok (.aload_n 0, 1) := by decide +kernel
theorem d_10_32_29 : decode prog_10_method_32_code 29 = .ok (.bipush 24, 2) := by decide +kernel
theorem d_10_32_31 : decode prog_10_method_32_code 31 = .ok (.aload_n 0, 1) := by decide +kernel
theorem d_10_32_32 : decode prog_10_method_32_code 32 = .ok (.getfield 58, 3) := by decide +kernel
theorem d_10_32_35 : decode prog_10_method_32_code 35 = .ok (.invokevirtual 187, 3) := by decide +kernel
theorem d_10_32_38 : decode prog_10_method_32_code 38 = .ok (.istore_n 1, 1) := by decide +kernel
theorem d_10_32_39 : decode prog_10_method_32_code 39 = .ok (.aload_n 0, 1) := by decide +kernel
theorem d_10_32_40 : decode prog_10_method_32_code 40 = .ok (.dup, 1) := by decide +kernel
theorem d_10_32_41 : decode prog_10_method_32_code 41 = .ok (.getfield 58, 3) := by decide +kernel
theorem d_10_32_44 : decode prog_10_method_32_code 44 = .ok (.iconst 1, 1) := by decide +kernel
theorem d_10_32_45 : decode prog_10_method_32_code 45 = .ok (.iadd, 1) := by decide +kernel
theorem d_10_32_46 : decode prog_10_method_32_code 46 = .ok (.putfield 58, 3) := by decide +kernel
theorem d_10_32_49 : decode prog_10_method_32_code 49 = .ok (.aload_n 0, 1) := by decide +kernel
theorem d_10_32_50 : decode prog_10_method_32_code 50 = .ok (.ldc_w 264, 3) := by decide +kernel
theorem d_10_32_53 : decode prog_10_method_32_code 53 = .ok (.invokevirtual 102, 3) := by decide +kernel
theorem d_10_32_56 : decode prog_10_method_32_code 56 = .ok (.ifCond .ne 5, 3) := by decide +kernel
theorem d_10_32_59 : decode prog_10_method_32_code 59 = .ok (.iload_n 1, 1) := by decide +kernel
theorem d_10_32_60 : decode prog_10_method_32_code 60 = .ok (.ireturn, 1) := by decide +kernel
theorem d_10_32_61 : decode prog_10_method_32_code 61 = .ok (.aload_n 0, 1) := by decide +kernel
theorem d_10_32_62 : decode prog_10_method_32_code 62 = .ok (.getfield 78, 3) := by decide +kernel
theorem d_10_32_65 : decode prog_10_method_32_code 65 = .ok (.iload_n 1, 1) := by decide +kernel
theorem d_10_32_66 : decode prog_10_method_32_code 66 = .ok (.aload_n 0, 1) := by decide +kernel
theorem d_10_32_67 : decode prog_10_method_32_code 67 = .ok (.ldc_w 264, 3) := by decide +kernel
theorem d_10_32_70 : decode prog_10_method_32_code 70 = .ok (.ldc_w 269, 3) := by decide +kernel
theorem d_10_32_73 : decode prog_10_method_32_code 73 = .ok (.invokevirtual 324, 3) := by decide +kernel
theorem d_10_32_76 : decode prog_10_method_32_code 76 = .ok (.iastore, 1) := by decide +kernel
theorem d_10_32_77 : decode prog_10_method_32_code 77 = .ok (.aload_n 0, 1) := by decide +kernel
theorem d_10_32_78 : decode prog_10_method_32_code 78 = .ok (.getfield 78, 3) := by decide +kernel
theorem d_10_32_81 : decode prog_10_method_32_code 81 = .ok (.iload_n 1, 1) := by decide +kernel
theorem d_10_32_82 : decode prog_10_method_32_code 82 = .ok (.iaload, 1) := by decide +kernel
theorem d_10_32_83 : decode prog_10_method_32_code 83 = .ok (.ifCond .ge 7, 3) := by decide +kernel
theorem d_10_32_86 : decode prog_10_method_32_code 86 = .ok (.iconst (-1), 1) := by decide +kernel
theorem d_10_32_87 : decode prog_10_method_32_code 87 = .ok (.goto 4, 3) := by decide +kernel
theorem d_10_32_90 : decode prog_10_method_32_code 90 = .ok (.iload_n 1, 1) := by decide +kernel
theorem d_10_32_91 : decode prog_10_method_32_code 91 = .ok (.ireturn, 1) := by decide +kernel
theorem d_10_33_0 : decode prog_10_method_33_code 0 = .ok (.aload_n 0, 1) := by decide +kernel
theorem d_10_33_1 : decode prog_10_method_33_code 1 = .ok (.aload_n 1, 1) := by decide +kernel
theorem d_10_33_2 : decode prog_10_method_33_code 2 = .ok (.invokevirtual 102, 3) := by decide +kernel
theorem d_10_33_5 : decode prog_10_method_33_code 5 = .ok (.ifCond .ne 8, 3) := by decide +kernel
theorem d_10_33_8 : decode prog_10_method_33_code 8 = .ok (.aload_n 0, 1) := by decide +kernel
theorem d_10_33_9 : decode prog_10_method_33_code 9 = .ok (.invokevirtual 106, 3) := by decide +kernel
theorem d_10_33_12 : decode prog_10_method_33_code 12 = .ok (.ireturn, 1) := by decide +kernel
theorem d_10_33_13 : decode prog_10_method_33_code 13 = .ok (.aload_n 0, 1) := by decide +kernel
theorem d_10_33_14 : decode prog_10_method_33_code 14 = .ok (.invokevirtual 183, 3) := by decide +kernel
theorem d_10_33_17 : decode prog_10_method_33_code 17 = .ok (.ifCond .ne 5, 3) := by decide +kernel
theorem d_10_33_20 : decode prog_10_method_33_code 20 = .ok (.iconst (-1), 1) := by decide +kernel
theorem d_10_33_21 : decode prog_10_method_33_code 21 = .ok (.ireturn, 1) := by decide +kernel
theorem d_10_33_22 : decode prog_10_method_33_code 22 = .ok (.aload_n 0, 1) := by decide +kernel
theorem d_10_33_23 : decode prog_10_method_33_code 23 = .ok (.dup, 1) := by decide +kernel
theorem d_10_33_24 : decode prog_10_method_33_code 24 = .ok (.getfield 58, 3) := by decide +kernel
theorem d_10_33_27 : decode prog_10_method_33_code 27 = .ok (.iconst 1, 1) := by decide +kernel
theorem d_10_33_28 : decode prog_10_method_33_code 28 = .ok (.iadd, 1) := by decide +kernel
theorem d_10_33_29 : decode prog_10_method_33_code 29 = .ok (.putfield 58, 3) := by decide +kernel
theorem d_10_33_32 : decode prog_10_method_33_code 32 = .ok (.aload_n 0, 1) := by decide +kernel
theorem d_10_33_33 : decode prog_10_method_33_code 33 = .ok (.invokevirtual 266, 3) := by decide +kernel
theorem d_10_33_36 : decode prog_10_method_33_code 36 = .ok (.istore_n 3, 1) := by decide +kernel
theorem d_10_33_37 : decode prog_10_method_33_code 37 = .ok (.iload_n 3, 1) := by decide +kernel
theorem d_10_33_38 : decode prog_10_method_33_code 38 = .ok (.ifCond .lt 11, 3) := by decide +kernel
theorem d_10_33_41 : decode prog_10_method_33_code 41 = .ok (.aload_n 0, 1) := by decide +kernel
theorem d_10_33_42 : decode prog_10_method_33_code 42 = .ok (.aload_n 2, 1) := by decide +kernel
theorem d_10_33_43 : decode prog_10_method_33_code 43 = .ok (.invokevirtual 215, 3) := by decide +kernel
theorem d_10_33_46 : decode prog_10_method_33_code 46 = .ok (.ifCond .ne 5, 3) := by decide +kernel
theorem d_10_33_49 : decode prog_10_method_33_code 49 = .ok (.iconst (-1), 1) := by decide +kernel
theorem d_10_33_50 : decode prog_10_method_33_code 50 = .ok (.ireturn, 1) := by decide +kernel
theorem d_10_33_51 : decode prog_10_method_33_code 51 = .ok (.aload_n 0, 1) := by decide +kernel
theorem d_10_33_52 : decode prog_10_method_33_code 52 = .ok (.dup, 1) := by decide +kernel
theorem d_10_33_53 : decode prog_10_method_33_code 53 = .ok (.getfield 109, 3) := by decide +kernel
theorem d_10_33_56 : decode prog_10_method_33_code 56 = .ok (.iconst 1, 1) := by decide +kernel
theorem d_10_33_57 : decode prog_10_method_33_code 57 = .ok (.isub, 1) := by decide +kernel
theorem d_10_33_58 : decode prog_10_method_33_code 58 = .ok (.putfield 109, 3) := by decide +kernel
theorem d_10_33_61 : decode prog_10_method_33_code 61 = .ok (.iload_n 3, 1) := by decide +kernel
theorem d_10_33_62 : decode prog_10_method_33_code 62 = .ok (.ireturn, 1) := by decide +kernel
theorem d_10_34_0 : decode prog_10_method_34_code 0 = .ok (.aload_n 0, 1) := by decide +kernel
theorem d_10_34_1 : decode prog_10_method_34_code 1 = .ok (.invokevirtual 183, 3) := by decide +kernel
theorem d_10_34_4 : decode prog_10_method_34_code 4 = .ok (.ifCond .ne 5, 3) := by decide +kernel
theorem d_10_34_7 : decode prog_10_method_34_code 7 = .ok (.iconst (-1), 1) := by decide +kernel
theorem d_10_34_8 : decode prog_10_method_34_code 8 = .ok (.ireturn, 1) := by decide +kernel
theorem d_10_34_9 : decode prog_10_method_34_code 9 = .ok (.aload_n 0, 1) := by decide +kernel
theorem d_10_34_10 : decode prog_10_method_34_code 10 = .ok (.dup, 1) := by decide +kernel
theorem d_10_34_11 : decode prog_10_method_34_code 11 = .ok (.getfield 58, 3) := by decide +kernel
theorem d_10_34_14 : decode prog_10_method_34_code 14 = .ok (.iconst 1, 1) := by decide +kernel
theorem d_10_34_15 : decode prog_10_method_34_code 15 = .ok (.iadd, 1) := by decide +kernel
theorem d_10_34_16 : decode prog_10_method_34_code 16 = .ok (.putfield 58, 3) := by decide +kernel
theorem d_10_34_19 : decode prog_10_method_34_code 19 = .ok (.aload_n 0, 1) := by decide +kernel
theorem d_10_34_20 : decode prog_10_method_34_code 20 = .ok (.invokevirtual 227, 3) := by decide +kernel
theorem d_10_34_23 : decode prog_10_method_34_code 23 = .ok (.istore_n 1, 1) := by decide +kernel
theorem d_10_34_24 : decode prog_10_method_34_code 24 = .ok (.aload_n 0, 1) := by decide +kernel
theorem d_10_34_25 : decode prog_10_method_34_code 25 = .ok (.dup, 1) := by decide +kernel
theorem d_10_34_26 : decode prog_10_method_34_code 26 = .ok (.getfield 109, 3) := by decide +kernel
theorem d_10_34_29 : decode prog_10_method_34_code 29 = .ok (.iconst 1, 1) := by decide +kernel
theorem d_10_34_30 : decode prog_10_method_34_code 30 = .ok (.isub, 1) := by decide +kernel
theorem d_10_34_31 : decode prog_10_method_34_code 31 = .ok (.putfield 109, 3) := by decide +kernel
theorem d_10_34_34 : decode prog_10_method_34_code 34 = .ok (.iload_n 1, 1) := by decide +kernel
theorem d_10_34_35 : decode prog_10_method_34_code 35 = .ok (.ireturn, 1) := by decide +kernel
theorem d_10_35_0 : decode prog_10_method_35_code 0 = .ok (.aload_n 0, 1) := by decide +kernel
theorem d_10_35_1 : decode prog_10_method_35_code 1 = .ok (.bipush 25, 2) := by decide +kernel
theorem d_10_35_3 : decode prog_10_method_35_code 3 = .ok (.aload_n 0, 1) := by decide +kernel
theorem d_10_35_4 : decode prog_10_method_35_code 4 = .ok (.getfield 58, 3) := by decide +kernel
theorem d_10_35_7 : decode prog_10_method_35_code 7 = .ok (.invokevirtual 187, 3) := by decide +kernel
theorem d_10_35_10 : decode prog_10_method_35_code 10 = .ok (.istore_n 1, 1) := by decide +kernel
theorem d_10_35_11 : decode prog_10_method_35_code 11 = .ok (.aload_n 0, 1) := by decide +kernel
theorem d_10_35_12 : decode prog_10_method_35_code 12 = .ok (.dup, 1) := by decide +kernel
theorem d_10_35_13 : decode prog_10_method_35_code 13 = .ok (.getfield 58, 3) := by decide +kernel
theorem d_10_35_16 : decode prog_10_method_35_code 16 = .ok (.iconst 1, 1) := by decide +kernel
theorem d_10_35_17 : decode prog_10_method_35_code 17 = .ok (.iadd, 1) := by decide +kernel
theorem d_10_35_18 : decode prog_10_method_35_code 18 = .ok (.putfield 58, 3) := by decide +kernel
theorem d_10_35_21 : decode prog_10_method_35_code 21 = .ok (.aload_n 0, 1) := by decide +kernel
theorem d_10_35_22 : decode prog_10_method_35_code 22 = .ok (.getfield 75, 3) := by decide +kernel
theorem d_10_35_25 : decode prog_10_method_35_code 25 = .ok (.iload_n 1, 1) := by decide +kernel
theorem d_10_35_26 : decode prog_10_method_35_code 26 = .ok (.aload_n 0, 1) := by decide +kernel
theorem d_10_35_27 : decode prog_10_method_35_code 27 = .ok (.invokevirtual 266, 3) := by decide +kernel
theorem d_10_35_30 : decode prog_10_method_35_code 30 = .ok (.iastore, 1) := by decide +kernel
theorem d_10_35_31 : decode prog_10_method_35_code 31 = .ok (.aload_n 0, 1) := by decide +kernel
theorem d_10_35_32 : decode prog_10_method_35_code 32 = .ok (.getfield 75, 3) := by decide +kernel
theorem d_10_35_35 : decode prog_10_method_35_code 35 = .ok (.iload_n 1, 1) := by decide +kernel
theorem d_10_35_36 : decode prog_10_method_35_code 36 = .ok (.iaload, 1) := by decide +kernel
theorem d_10_35_37 : decode prog_10_method_35_code 37 = .ok (.ifCond .ge 5, 3) := by decide +kernel
theorem d_10_35_40 : decode prog_10_method_35_code 40 = .ok (.iconst (-1), 1) := by decide +kernel
theorem d_10_35_41 : decode prog_10_method_35_code 41 = .ok (.ireturn, 1) := by decide +kernel
theorem d_10_35_42 : decode prog_10_method_35_code 42 = .ok (.aload_n 0, 1) := by decide +kernel
theorem d_10_35_43 : decode prog_10_method_35_code 43 = .ok (.ldc_w 328, 3) := by decide +kernel
theorem d_10_35_46 : decode prog_10_method_35_code 46 = .ok (.invokevirtual 102, 3) := by decide +kernel
theorem d_10_35_49 : decode prog_10_method_35_code 49 = .ok (.ifCond .ne 8, 3) := by decide +kernel
theorem d_10_35_52 : decode prog_10_method_35_code 52 = .ok (.aload_n 0, 1) := by decide +kernel
theorem d_10_35_53 : decode prog_10_method_35_code 53 = .ok (.invokevirtual 106, 3) := by decide +kernel
theorem d_10_35_56 : decode prog_10_method_35_code 56 = .ok (.ireturn, 1) := by decide +kernel
theorem d_10_35_57 : decode prog_10_method_35_code 57 = .ok (.aload_n 0, 1) := by decide +kernel
theorem d_10_35_58 : decode prog_10_method_35_code 58 = .ok (.getfield 109, 3) := by decide +kernel
theorem d_10_35_61 : decode prog_10_method_35_code 61 = .ok (.bipush 20, 2) := by decide +kernel
theorem d_10_35_63 : decode prog_10_method_35_code 63 = .ok (.if_icmp .ge 50, 3) := by decide +kernel
theorem d_10_35_66 : decode prog_10_method_35_code 66 = .ok (.aload_n 0, 1) := by decide +kernel
theorem d_10_35_67 : decode prog_10_method_35_code 67 = .ok (.aload_n 0, 1) := by decide +kernel
theorem d_10_35_68 : decode prog_10_method_35_code 68 = .ok (.getfield 58, 3) := by decide +kernel
theorem d_10_35_71 : decode prog_10_method_35_code 71 = .ok (.iconst 1, 1) := by decide +kernel
theorem d_10_35_72 : decode prog_10_method_35_code 72 = .ok (.iadd, 1) := by decide +kernel
theorem d_10_35_73 : decode prog_10_method_35_code 73 = .ok (.ldc_w 306, 3) := by decide +kernel
theorem d_10_35_76 : decode prog_10_method_35_code 76 = .ok (.invokevirtual 62, 3) := by decide +kernel
theorem d_10_35_79 : decode prog_10_method_35_code 79 = .ok (.ifCond .ne 19, 3) := by decide +kernel
theorem d_10_35_82 : decode prog_10_method_35_code 82 = .ok (.aload_n 0, 1) := by decide +kernel
theorem d_10_35_83 : decode prog_10_method_35_code 83 = .ok (.aload_n 0, 1) := by decide +kernel
theorem d_10_35_84 : decode prog_10_method_35_code 84 = .ok (.getfield 58, 3) := by decide +kernel
theorem d_10_35_87 : decode prog_10_method_35_code 87 = .ok (.iconst 1, 1) := by decide +kernel
theorem d_10_35_88 : decode prog_10_method_35_code 88 = .ok (.iadd, 1) := by decide +kernel
theorem d_10_35_89 : decode prog_10_method_35_code 89 = .ok (.ldc_w 311, 3) := by decide +kernel
theorem d_10_35_92 : decode prog_10_method_35_code 92 = .ok (.invokevirtual 62, 3) := by decide +kernel
theorem d_10_35_95 : decode prog_10_method_35_code 95 = .ok (.ifCond .eq 18, 3) := by decide +kernel
theorem d_10_35_98 : decode prog_10_method_35_code 98 = .ok (.aload_n 0, 1) := by decide +kernel
theorem d_10_35_99 : decode prog_10_method_35_code 99 = .ok (.dup, 1) := by decide +kernel
theorem d_10_35_100 : decode prog_10_method_35_code 100 = .ok (.getfield 58, 3) := by decide +kernel
theorem d_10_35_103 : decode prog_10_method_35_code 103 = .ok (.iconst 1, 1) := by decide +kernel
theorem d_10_35_104 : decode prog_10_method_35_code 104 = .ok (.iadd, 1) := by decide +kernel
theorem d_10_35_105 : decode prog_10_method_35_code 105 = .ok (.putfield 58, 3) := by decide +kernel
theorem d_10_35_108 : decode prog_10_method_35_code 108 = .ok (.aload_n 0, 1) := by decide +kernel
theorem d_10_35_109 : decode prog_10_method_35_code 109 = .ok (.invokevirtual 106, 3) := by decide +kernel
theorem d_10_35_112 : decode prog_10_method_35_code 112 = .ok (.ireturn, 1) := by decide +kernel
theorem d_10_35_113 : decode prog_10_method_35_code 113 = .ok (.aload_n 0, 1) := by decide +kernel
theorem d_10_35_114 : decode prog_10_method_35_code 114 = .ok (.getfield 78, 3) := by decide +kernel
theorem d_10_35_117 : decode prog_10_method_35_code 117 = .ok (.iload_n 1, 1) := by decide +kernel
theorem d_10_35_118 : decode prog_10_method_35_code 118 = .ok (.aload_n 0, 1) := by decide +kernel
theorem d_10_35_119 : decode prog_10_method_35_code 119 = .ok (.invokevirtual 330, 3) := by decide +kernel
theorem d_10_35_122 : decode prog_10_method_35_code 122 = .ok (.iastore, 1) := by decide +kernel
theorem d_10_35_123 : decode prog_10_method_35_code 123 = .ok (.aload_n 0, 1) := by decide +kernel
theorem d_10_35_124 : decode prog_10_method_35_code 124 = .ok (.getfield 78, 3) := by decide +kernel
theorem d_10_35_127 : decode prog_10_method_35_code 127 = .ok (.iload_n 1, 1) := by decide +kernel
theorem d_10_35_128 : decode prog_10_method_35_code 128 = .ok (.iaload, 1) := by decide +kernel
theorem d_10_35_129 : decode prog_10_method_35_code 129 = .ok (.ifCond .ge 5, 3) := by decide +kernel
theorem d_10_35_132 : decode prog_10_method_35_code 132 = .ok (.iconst (-1), 1) := by decide +kernel
theorem d_10_35_133 : decode prog_10_method_35_code 133 = .ok (.ireturn, 1) := by decide +kernel
theorem d_10_35_134 : decode prog_10_method_35_code 134 = .ok (.aload_n 0, 1) := by decide +kernel
theorem d_10_35_135 : decode prog_10_method_35_code 135 = .ok (.ldc_w 333, 3) := by decide +kernel
theorem d_10_35_138 : decode prog_10_method_35_code 138 = .ok (.invokevirtual 102, 3) := by decide +kernel
theorem d_10_35_141 : decode prog_10_method_35_code 141 = .ok (.ifCond .ne 5, 3) := by decide +kernel
theorem d_10_35_144 : decode prog_10_method_35_code 144 = .ok (.iload_n 1, 1) := by decide +kernel
theorem d_10_35_145 : decode prog_10_method_35_code 145 = .ok (.ireturn, 1) := by decide +kernel
theorem d_10_35_146 : decode prog_10_method_35_code 146 = .ok (.aload_n 0, 1) := by decide +kernel
theorem d_10_35_147 : decode prog_10_method_35_code 147 = .ok (.getfield 81, 3) := by decide +kernel
theorem d_10_35_150 : decode prog_10_method_35_code 150 = .ok (.iload_n 1, 1) := by decide +kernel
theorem d_10_35_151 : decode prog_10_method_35_code 151 = .ok (.aload_n 0, 1) := by decide +kernel
theorem d_10_35_152 : decode prog_10_method_35_code 152 = .ok (.invokevirtual 330, 3) := by decide +kernel
theorem d_10_35_155 : decode prog_10_method_35_code 155 = .ok (.iastore, 1) := by decide +kernel
theorem d_10_35_156 : decode prog_10_method_35_code 156 = .ok (.aload_n 0, 1) := by decide +kernel
theorem d_10_35_157 : decode prog_10_method_35_code 157 = .ok (.getfield 81, 3) := by decide +kernel
theorem d_10_35_160 : decode prog_10_method_35_code 160 = .ok (.iload_n 1, 1) := by decide +kernel
theorem d_10_35_161 : decode prog_10_method_35_code 161 = .ok (.iaload, 1) := by decide +kernel
theorem d_10_35_162 : decode prog_10_method_35_code 162 = .ok (.ifCond .ge 7, 3) := by decide +kernel
theorem d_10_35_165 : decode prog_10_method_35_code 165 = .ok (.iconst (-1), 1) := by decide +kernel
theorem d_10_35_166 : decode prog_10_method_35_code 166 = .ok (.goto 4, 3) := by decide +kernel
theorem d_10_35_169 : decode prog_10_method_35_code 169 = .ok (.iload_n 1, 1) := by decide +kernel
theorem d_10_35_170 : decode prog_10_method_35_code 170 = .ok (.ireturn, 1) := by decide +kernel
theorem d_10_36_0 : decode prog_10_method_36_code 0 = .ok (.aload_n 0, 1) := by decide +kernel
theorem d_10_36_1 : decode prog_10_method_36_code 1 = .ok (.dup, 1) := by decide +kernel
theorem d_10_36_2 : decode prog_10_method_36_code 2 = .ok (.getfield 58, 3) := by decide +kernel
theorem d_10_36_5 : decode prog_10_method_36_code 5 = .ok (.iconst 1, 1) := by decide +kernel
theorem d_10_36_6 : decode prog_10_method_36_code 6 = .ok (.iadd, 1) := by decide +kernel
theorem d_10_36_7 : decode prog_10_method_36_code 7 = .ok (.putfield 58, 3) := by decide +kernel
theorem d_10_36_10 : decode prog_10_method_36_code 10 = .ok (.aload_n 0, 1) := by decide +kernel
theorem d_10_36_11 : decode prog_10_method_36_code 11 = .ok (.getfield 23, 3) := by decide +kernel
theorem d_10_36_14 : decode prog_10_method_36_code 14 = .ok (.aload_n 0, 1) := by decide +kernel
theorem d_10_36_15 : decode prog_10_method_36_code 15 = .ok (.getfield 58, 3) := by decide +kernel
theorem d_10_36_18 : decode prog_10_method_36_code 18 = .ok (.iaload, 1) := by decide +kernel
theorem d_10_36_19 : decode prog_10_method_36_code 19 = .ok (.iconst 1, 1) := by decide +kernel
theorem d_10_36_20 : decode prog_10_method_36_code 20 = .ok (.if_icmp .eq 8, 3) := by decide +kernel
theorem d_10_36_23 : decode prog_10_method_36_code 23 = .ok (.aload_n 0, 1) := by decide +kernel
theorem d_10_36_24 : decode prog_10_method_36_code 24 = .ok (.invokevirtual 106, 3) := by decide +kernel
theorem d_10_36_27 : decode prog_10_method_36_code 27 = .ok (.ireturn, 1) := by decide +kernel
theorem d_10_36_28 : decode prog_10_method_36_code 28 = .ok (.aload_n 0, 1) := by decide +kernel
theorem d_10_36_29 : decode prog_10_method_36_code 29 = .ok (.bipush 26, 2) := by decide +kernel
theorem d_10_36_31 : decode prog_10_method_36_code 31 = .ok (.aload_n 0, 1) := by decide +kernel
theorem d_10_36_32 : decode prog_10_method_36_code 32 = .ok (.getfield 58, 3) := by decide +kernel
theorem d_10_36_35 : decode prog_10_method_36_code 35 = .ok (.invokevirtual 187, 3) := by decide +kernel
theorem d_10_36_38 : decode prog_10_method_36_code 38 = .ok (.istore_n 1, 1) := by decide +kernel
theorem d_10_36_39 : decode prog_10_method_36_code 39 = .ok (.iconst (-1), 1) := by decide +kernel
theorem d_10_36_40 : decode prog_10_method_36_code 40 = .ok (.istore_n 2, 1) := by decide +kernel
theorem d_10_36_41 : decode prog_10_method_36_code 41 = .ok (.aload_n 0, 1) := by decide +kernel
theorem d_10_36_42 : decode prog_10_method_36_code 42 = .ok (.dup, 1) := by decide +kernel
theorem d_10_36_43 : decode prog_10_method_36_code 43 = .ok (.getfield 58, 3) := by decide +kernel
theorem d_10_36_46 : decode prog_10_method_36_code 46 = .ok (.iconst 1, 1) := by decide +kernel
theorem d_10_36_47 : decode prog_10_method_36_code 47 = .ok (.iadd, 1) := by decide +kernel
theorem d_10_36_48 : decode prog_10_method_36_code 48 = .ok (.putfield 58, 3) := by decide +kernel
theorem d_10_36_51 : decode prog_10_method_36_code 51 = .ok (.aload_n 0, 1) := by decide +kernel
theorem d_10_36_52 : decode prog_10_method_36_code 52 = .ok (.ldc_w 271, 3) := by decide +kernel
theorem d_10_36_55 : decode prog_10_method_36_code 55 = .ok (.invokevirtual 102, 3) := by decide +kernel
theorem d_10_36_58 : decode prog_10_method_36_code 58 = .ok (.ifCond .ne 8, 3) := by decide +kernel
theorem d_10_36_61 : decode prog_10_method_36_code 61 = .ok (.aload_n 0, 1) := by decide +kernel
theorem d_10_36_62 : decode prog_10_method_36_code 62 = .ok (.invokevirtual 106, 3) := by decide +kernel
theorem d_10_36_65 : decode prog_10_method_36_code 65 = .ok (.ireturn, 1) := by decide +kernel
theorem d_10_36_66 : decode prog_10_method_36_code 66 = .ok (.aload_n 0, 1) := by decide +kernel
theorem d_10_36_67 : decode prog_10_method_36_code 67 = .ok (.dup, 1) := by decide +kernel
theorem d_10_36_68 : decode prog_10_method_36_code 68 = .ok (.getfield 58, 3) := by decide +kernel
theorem d_10_36_71 : decode prog_10_method_36_code 71 = .ok (.iconst 1, 1) := by decide +kernel
theorem d_10_36_72 : decode prog_10_method_36_code 72 = .ok (.iadd, 1) := by decide +kernel
theorem d_10_36_73 : decode prog_10_method_36_code 73 = .ok (.putfield 58, 3) := by decide +kernel
theorem d_10_36_76 : decode prog_10_method_36_code 76 = .ok (.aload_n 0, 1) := by decide +kernel
theorem d_10_36_77 : decode prog_10_method_36_code 77 = .ok (.bipush 29, 2) := by decide +kernel
theorem d_10_36_79 : decode prog_10_method_36_code 79 = .ok (.aload_n 0, 1) := by decide +kernel
theorem d_10_36_80 : decode prog_10_method_36_code 80 = .ok (.getfield 58, 3) := by decide +kernel
theorem d_10_36_83 : decode prog_10_method_36_code 83 = .ok (.invokevirtual 187, 3) := by decide +kernel
theorem d_10_36_86 : decode prog_10_method_36_code 86 = .ok (.istore_n 3, 1) := by decide +kernel
theorem d_10_36_87 : decode prog_10_method_36_code 87 = .ok (.aload_n 0, 1) := by decide +kernel
theorem d_10_36_88 : decode prog_10_method_36_code 88 = .ok (.iload_n 3, 1) := by decide +kernel
theorem d_10_36_89 : decode prog_10_method_36_code 89 = .ok (.invokevirtual 335, 3) := by decide +kernel
theorem d_10_36_92 : decode prog_10_method_36_code 92 = .ok (.ifCond .ne 5, 3) := by decide +kernel
theorem d_10_36_95 : decode prog_10_method_36_code 95 = .ok (.iconst (-1), 1) := by decide +kernel
theorem d_10_36_96 : decode prog_10_method_36_code 96 = .ok (.ireturn, 1) := by decide +kernel
theorem d_10_36_97 : decode prog_10_method_36_code 97 = .ok (.iload_n 2, 1) := by decide +kernel
theorem d_10_36_98 : decode prog_10_method_36_code 98 = .ok (.ifCond .ge 13, 3) := by decide +kernel
theorem d_10_36_101 : decode prog_10_method_36_code 101 = .ok (.aload_n 0, 1) := by decide +kernel
theorem d_10_36_102 : decode prog_10_method_36_code 102 = .ok (.getfield 75, 3) := by decide +kernel
theorem d_10_36_105 : decode prog_10_method_36_code 105 = .ok (.iload_n 1, 1) := by decide +kernel
theorem d_10_36_106 : decode prog_10_method_36_code 106 = .ok (.iload_n 3, 1) := by decide +kernel
theorem d_10_36_107 : decode prog_10_method_36_code 107 = .ok (.iastore, 1) := by decide +kernel
theorem d_10_36_108 : decode prog_10_method_36_code 108 = .ok (.goto 10, 3) := by decide +kernel
theorem d_10_36_111 : decode prog_10_method_36_code 111 = .ok (.aload_n 0, 1) := by decide +kernel
theorem d_10_36_112 : decode prog_10_method_36_code 112 = .ok (.getfield 87, 3) := by decide +kernel
theorem d_10_36_115 : decode prog_10_method_36_code 115 = .ok (.iload_n 2, 1) := by decide +kernel
theorem d_10_36_116 : decode prog_10_method_36_code 116 = .ok (.iload_n 3, 1) := by decide +kernel
theorem d_10_36_117 : decode prog_10_method_36_code 117 = .ok (.iastore, 1) := by decide +kernel
theorem d_10_36_118 : decode prog_10_method_36_code 118 = .ok (.iload_n 3, 1) := by decide +kernel
theorem d_10_36_119 : decode prog_10_method_36_code 119 = .ok (.istore_n 2, 1) := by decide +kernel
theorem d_10_36_120 : decode prog_10_method_36_code 120 = .ok (.aload_n 0, 1) := by decide +kernel
theorem d_10_36_121 : decode prog_10_method_36_code 121 = .ok (.ldc 253, 2) := by decide +kernel
theorem d_10_36_123 : decode prog_10_method_36_code 123 = .ok (.invokevirtual 102, 3) := by decide +kernel
theorem d_10_36_126 : decode prog_10_method_36_code 126 = .ok (.ifCond .ne (-60), 3) := by decide +kernel
theorem d_10_36_129 : decode prog_10_method_36_code 129 = .ok (.aload_n 0, 1) := by decide +kernel
theorem d_10_36_130 : decode prog_10_method_36_code 130 = .ok (.ldc_w 338, 3) := by decide +kernel
theorem d_10_36_133 : decode prog_10_method_36_code 133 = .ok (.invokevirtual 102, 3) := by decide +kernel
theorem d_10_36_136 : decode prog_10_method_36_code 136 = .ok (.ifCond .ne 8, 3) := by decide +kernel
theorem d_10_36_139 : decode prog_10_method_36_code 139 = .ok (.aload_n 0, 1) := by decide +kernel
theorem d_10_36_140 : decode prog_10_method_36_code 140 = .ok (.invokevirtual 106, 3) := by decide +kernel
theorem d_10_36_143 : decode prog_10_method_36_code 143 = .ok (.ireturn, 1) := by decide +kernel
theorem d_10_36_144 : decode prog_10_method_36_code 144 = .ok (.aload_n 0, 1) := by decide +kernel
theorem d_10_36_145 : decode prog_10_method_36_code 145 = .ok (.getfield 78, 3) := by decide +kernel
theorem d_10_36_148 : decode prog_10_method_36_code 148 = .ok (.iload_n 1, 1) := by decide +kernel
theorem d_10_36_149 : decode prog_10_method_36_code 149 = .ok (.aload_n 0, 1) := by decide +kernel
theorem d_10_36_150 : decode prog_10_method_36_code 150 = .ok (.invokevirtual 330, 3) := by decide +kernel
theorem d_10_36_153 : decode prog_10_method_36_code 153 = .ok (.iastore, 1) := by decide +kernel
theorem d_10_36_154 : decode prog_10_method_36_code 154 = .ok (.aload_n 0, 1) := by decide +kernel
theorem d_10_36_155 : decode prog_10_method_36_code 155 = .ok (.getfield 78, 3) := by decide +kernel
theorem d_10_36_158 : decode prog_10_method_36_code 158 = .ok (.iload_n 1, 1) := by decide +kernel
theorem d_10_36_159 : decode prog_10_method_36_code 159 = .ok (.iaload, 1) := by decide +kernel
theorem d_10_36_160 : decode prog_10_method_36_code 160 = .ok (.ifCond .ge 7, 3) := by decide +kernel
theorem d_10_36_163 : decode prog_10_method_36_code 163 = .ok (.iconst (-1), 1) := by decide +kernel
theorem d_10_36_164 : decode prog_10_method_36_code 164 = .ok (.goto 4, 3) := by decide +kernel
theorem d_10_36_167 : decode prog_10_method_36_code 167 = .ok (.iload_n 1, 1) := by decide +kernel
theorem d_10_36_168 : decode prog_10_method_36_code 168 = .ok (.ireturn, 1) := by decide +kernel
theorem d_10_37_0 : decode prog_10_method_37_code 0 = .ok (.aload_n 0, 1) := by decide +kernel
theorem d_10_37_1 : decode prog_10_method_37_code 1 = .ok (.getfield 75, 3) := by decide +kernel
theorem d_10_37_4 : decode prog_10_method_37_code 4 = .ok (.iload_n 1, 1) := by decide +kernel
theorem d_10_37_5 : decode prog_10_method_37_code 5 = .ok (.aload_n 0, 1) := by decide +kernel
theorem d_10_37_6 : decode prog_10_method_37_code 6 = .ok (.invokevirtual 266, 3) := by decide +kernel
theorem d_10_37_9 : decode prog_10_method_37_code 9 = .ok (.iastore, 1) := by decide +kernel
theorem d_10_37_10 : decode prog_10_method_37_code 10 = .ok (.aload_n 0, 1) := by decide +kernel
theorem d_10_37_11 : decode prog_10_method_37_code 11 = .ok (.getfield 75, 3) := by decide +kernel
theorem d_10_37_14 : decode prog_10_method_37_code 14 = .ok (.iload_n 1, 1) := by decide +kernel
theorem d_10_37_15 : decode prog_10_method_37_code 15 = .ok (.iaload, 1) := by decide +kernel
theorem d_10_37_16 : decode prog_10_method_37_code 16 = .ok (.ifCond .ge 5, 3) := by decide +kernel
theorem d_10_37_19 : decode prog_10_method_37_code 19 = .ok (.iconst 0, 1) := by decide +kernel
theorem d_10_37_20 : decode prog_10_method_37_code 20 = .ok (.ireturn, 1) := by decide +kernel
theorem d_10_37_21 : decode prog_10_method_37_code 21 = .ok (.aload_n 0, 1) := by decide +kernel
theorem d_10_37_22 : decode prog_10_method_37_code 22 = .ok (.getfield 84, 3) := by decide +kernel
theorem d_10_37_25 : decode prog_10_method_37_code 25 = .ok (.iload_n 1, 1) := by decide +kernel
theorem d_10_37_26 : decode prog_10_method_37_code 26 = .ok (.aload_n 0, 1) := by decide +kernel
theorem d_10_37_27 : decode prog_10_method_37_code 27 = .ok (.ldc_w 340, 3) := by decide +kernel
theorem d_10_37_30 : decode prog_10_method_37_code 30 = .ok (.invokevirtual 102, 3) := by decide +kernel
theorem d_10_37_33 : decode prog_10_method_37_code 33 = .ok (.ifCond .eq 7, 3) := by decide +kernel
theorem d_10_37_36 : decode prog_10_method_37_code 36 = .ok (.iconst 1, 1) := by decide +kernel
theorem d_10_37_37 : decode prog_10_method_37_code 37 = .ok (.goto 18, 3) := by decide +kernel
theorem d_10_37_40 : decode prog_10_method_37_code 40 = .ok (.aload_n 0, 1) := by decide +kernel
theorem d_10_37_41 : decode prog_10_method_37_code 41 = .ok (.ldc_w 342, 3) := by decide +kernel
theorem d_10_37_44 : decode prog_10_method_37_code 44 = .ok (.invokevirtual 102, 3) := by decide +kernel
theorem d_10_37_47 : decode prog_10_method_37_code 47 = .ok (.ifCond .eq 7, 3) := by decide +kernel
theorem d_10_37_50 : decode prog_10_method_37_code 50 = .ok (.iconst 2, 1) := by decide +kernel
theorem d_10_37_51 : decode prog_10_method_37_code 51 = .ok (.goto 4, 3) := by decide +kernel
theorem d_10_37_54 : decode prog_10_method_37_code 54 = .ok (.iconst 0, 1) := by decide +kernel
theorem d_10_37_55 : decode prog_10_method_37_code 55 = .ok (.iastore, 1) := by decide +kernel
theorem d_10_37_56 : decode prog_10_method_37_code 56 = .ok (.aload_n 0, 1) := by decide +kernel
theorem d_10_37_57 : decode prog_10_method_37_code 57 = .ok (.getfield 84, 3) := by decide +kernel
theorem d_10_37_60 : decode prog_10_method_37_code 60 = .ok (.iload_n 1, 1) := by decide +kernel
theorem d_10_37_61 : decode prog_10_method_37_code 61 = .ok (.iaload, 1) := by decide +kernel
theorem d_10_37_62 : decode prog_10_method_37_code 62 = .ok (.ifCond .ne 5, 3) := by decide +kernel
theorem d_10_37_65 : decode prog_10_method_37_code 65 = .ok (.iconst 1, 1) := by decide +kernel
theorem d_10_37_66 : decode prog_10_method_37_code 66 = .ok (.ireturn, 1) := by decide +kernel
theorem d_10_37_67 : decode prog_10_method_37_code 67 = .ok (.aload_n 0, 1) := by decide +kernel
theorem d_10_37_68 : decode prog_10_method_37_code 68 = .ok (.dup, 1) := by decide +kernel
theorem d_10_37_69 : decode prog_10_method_37_code 69 = .ok (.getfield 58, 3) := by decide +kernel
theorem d_10_37_72 : decode prog_10_method_37_code 72 = .ok (.iconst 1, 1) := by decide +kernel
theorem d_10_37_73 : decode prog_10_method_37_code 73 = .ok (.iadd, 1) := by decide +kernel
theorem d_10_37_74 : decode prog_10_method_37_code 74 = .ok (.putfield 58, 3) := by decide +kernel
theorem d_10_37_77 : decode prog_10_method_37_code 77 = .ok (.aload_n 0, 1) := by decide +kernel
theorem d_10_37_78 : decode prog_10_method_37_code 78 = .ok (.getfield 78, 3) := by decide +kernel
theorem d_10_37_81 : decode prog_10_method_37_code 81 = .ok (.iload_n 1, 1) := by decide +kernel
theorem d_10_37_82 : decode prog_10_method_37_code 82 = .ok (.aload_n 0, 1) := by decide +kernel
theorem d_10_37_83 : decode prog_10_method_37_code 83 = .ok (.invokevirtual 266, 3) := by decide +kernel
theorem d_10_37_86 : decode prog_10_method_37_code 86 = .ok (.iastore, 1) := by decide +kernel
