theorem jd_d_numberOfTrailingZeros_0 : decode jd_c_numberOfTrailingZeros 0 = .ok (.iload_n 0, 1) := by decide +kernel
theorem jd_d_numberOfTrailingZeros_1 : decode jd_c_numberOfTrailingZeros 1 = .ok (.iconst (-1), 1) := by decide +kernel
theorem jd_d_numberOfTrailingZeros_2 : decode jd_c_numberOfTrailingZeros 2 = .ok (.ixor, 1) := by decide +kernel
theorem jd_d_numberOfTrailingZeros_3 : decode jd_c_numberOfTrailingZeros 3 = .ok (.iload_n 0, 1) := by decide +kernel
theorem jd_d_numberOfTrailingZeros_4 : decode jd_c_numberOfTrailingZeros 4 = .ok (.iconst 1, 1) := by decide +kernel
theorem jd_d_numberOfTrailingZeros_5 : decode jd_c_numberOfTrailingZeros 5 = .ok (.isub, 1) := by decide +kernel
theorem jd_d_numberOfTrailingZeros_6 : decode jd_c_numberOfTrailingZeros 6 = .ok (.iand, 1) := by decide +kernel
theorem jd_d_numberOfTrailingZeros_7 : decode jd_c_numberOfTrailingZeros 7 = .ok (.istore_n 0, 1) := by decide +kernel
theorem jd_d_numberOfTrailingZeros_8 : decode jd_c_numberOfTrailingZeros 8 = .ok (.iload_n 0, 1) := by decide +kernel
theorem jd_d_numberOfTrailingZeros_9 : decode jd_c_numberOfTrailingZeros 9 = .ok (.ifCond .gt 8, 3) := by decide +kernel
theorem jd_d_numberOfTrailingZeros_12 : decode jd_c_numberOfTrailingZeros 12 = .ok (.iload_n 0, 1) := by decide +kernel
theorem jd_d_numberOfTrailingZeros_13 : decode jd_c_numberOfTrailingZeros 13 = .ok (.bipush 32, 2) := by decide +kernel
theorem jd_d_numberOfTrailingZeros_15 : decode jd_c_numberOfTrailingZeros 15 = .ok (.iand, 1) := by decide +kernel
theorem jd_d_numberOfTrailingZeros_16 : decode jd_c_numberOfTrailingZeros 16 = .ok (.ireturn, 1) := by decide +kernel
theorem jd_d_numberOfTrailingZeros_17 : decode jd_c_numberOfTrailingZeros 17 = .ok (.iconst 1, 1) := by decide +kernel
theorem jd_d_numberOfTrailingZeros_18 : decode jd_c_numberOfTrailingZeros 18 = .ok (.istore_n 1, 1) := by decide +kernel
theorem jd_d_numberOfTrailingZeros_19 : decode jd_c_numberOfTrailingZeros 19 = .ok (.iload_n 0, 1) := by decide +kernel
theorem jd_d_numberOfTrailingZeros_20 : decode jd_c_numberOfTrailingZeros 20 = .ok (.ldc_w 264, 3) := by decide +kernel
theorem jd_d_numberOfTrailingZeros_23 : decode jd_c_numberOfTrailingZeros 23 = .ok (.if_icmp .le 11, 3) := by decide +kernel
theorem jd_d_numberOfTrailingZeros_26 : decode jd_c_numberOfTrailingZeros 26 = .ok (.iinc 1 16, 3) := by decide +kernel
theorem jd_d_numberOfTrailingZeros_29 : decode jd_c_numberOfTrailingZeros 29 = .ok (.iload_n 0, 1) := by decide +kernel
theorem jd_d_numberOfTrailingZeros_30 : decode jd_c_numberOfTrailingZeros 30 = .ok (.bipush 16, 2) := by decide +kernel
theorem jd_d_numberOfTrailingZeros_32 : decode jd_c_numberOfTrailingZeros 32 = .ok (.iushr, 1) := by decide +kernel
theorem jd_d_numberOfTrailingZeros_33 : decode jd_c_numberOfTrailingZeros 33 = .ok (.istore_n 0, 1) := by decide +kernel
theorem jd_d_numberOfTrailingZeros_34 : decode jd_c_numberOfTrailingZeros 34 = .ok (.iload_n 0, 1) := by decide +kernel
theorem jd_d_numberOfTrailingZeros_35 : decode jd_c_numberOfTrailingZeros 35 = .ok (.sipush 256, 3) := by decide +kernel
theorem jd_d_numberOfTrailingZeros_38 : decode jd_c_numberOfTrailingZeros 38 = .ok (.if_icmp .le 11, 3) := by decide +kernel
theorem jd_d_numberOfTrailingZeros_41 : decode jd_c_numberOfTrailingZeros 41 = .ok (.iinc 1 8, 3) := by decide +kernel
theorem jd_d_numberOfTrailingZeros_44 : decode jd_c_numberOfTrailingZeros 44 = .ok (.iload_n 0, 1) := by decide +kernel
theorem jd_d_numberOfTrailingZeros_45 : decode jd_c_numberOfTrailingZeros 45 = .ok (.bipush 8, 2) := by decide +kernel
theorem jd_d_numberOfTrailingZeros_47 : decode jd_c_numberOfTrailingZeros 47 = .ok (.iushr, 1) := by decide +kernel
theorem jd_d_numberOfTrailingZeros_48 : decode jd_c_numberOfTrailingZeros 48 = .ok (.istore_n 0, 1) := by decide +kernel
theorem jd_d_numberOfTrailingZeros_49 : decode jd_c_numberOfTrailingZeros 49 = .ok (.iload_n 0, 1) := by decide +kernel
theorem jd_d_numberOfTrailingZeros_50 : decode jd_c_numberOfTrailingZeros 50 = .ok (.bipush 16, 2) := by decide +kernel
theorem jd_d_numberOfTrailingZeros_52 : decode jd_c_numberOfTrailingZeros 52 = .ok (.if_icmp .le 10, 3) := by decide +kernel
theorem jd_d_numberOfTrailingZeros_55 : decode jd_c_numberOfTrailingZeros 55 = .ok (.iinc 1 4, 3) := by decide +kernel
theorem jd_d_numberOfTrailingZeros_58 : decode jd_c_numberOfTrailingZeros 58 = .ok (.iload_n 0, 1) := by decide +kernel
theorem jd_d_numberOfTrailingZeros_59 : decode jd_c_numberOfTrailingZeros 59 = .ok (.iconst 4, 1) := by decide +kernel
theorem jd_d_numberOfTrailingZeros_60 : decode jd_c_numberOfTrailingZeros 60 = .ok (.iushr, 1) := by decide +kernel
theorem jd_d_numberOfTrailingZeros_61 : decode jd_c_numberOfTrailingZeros 61 = .ok (.istore_n 0, 1) := by decide +kernel
theorem jd_d_numberOfTrailingZeros_62 : decode jd_c_numberOfTrailingZeros 62 = .ok (.iload_n 0, 1) := by decide +kernel
theorem jd_d_numberOfTrailingZeros_63 : decode jd_c_numberOfTrailingZeros 63 = .ok (.iconst 4, 1) := by decide +kernel
theorem jd_d_numberOfTrailingZeros_64 : decode jd_c_numberOfTrailingZeros 64 = .ok (.if_icmp .le 10, 3) := by decide +kernel
theorem jd_d_numberOfTrailingZeros_67 : decode jd_c_numberOfTrailingZeros 67 = .ok (.iinc 1 2, 3) := by decide +kernel
theorem jd_d_numberOfTrailingZeros_70 : decode jd_c_numberOfTrailingZeros 70 = .ok (.iload_n 0, 1) := by decide +kernel
theorem jd_d_numberOfTrailingZeros_71 : decode jd_c_numberOfTrailingZeros 71 = .ok (.iconst 2, 1) := by decide +kernel
theorem jd_d_numberOfTrailingZeros_72 : decode jd_c_numberOfTrailingZeros 72 = .ok (.iushr, 1) := by decide +kernel
theorem jd_d_numberOfTrailingZeros_73 : decode jd_c_numberOfTrailingZeros 73 = .ok (.istore_n 0, 1) := by decide +kernel
theorem jd_d_numberOfTrailingZeros_74 : decode jd_c_numberOfTrailingZeros 74 = .ok (.iload_n 1, 1) := by decide +kernel
theorem jd_d_numberOfTrailingZeros_75 : decode jd_c_numberOfTrailingZeros 75 = .ok (.iload_n 0, 1) := by decide +kernel
theorem jd_d_numberOfTrailingZeros_76 : decode jd_c_numberOfTrailingZeros 76 = .ok (.iconst 1, 1) := by decide +kernel
theorem jd_d_numberOfTrailingZeros_77 : decode jd_c_numberOfTrailingZeros 77 = .ok (.iushr, 1) := by decide +kernel
theorem jd_d_numberOfTrailingZeros_78 : decode jd_c_numberOfTrailingZeros 78 = .ok (.iadd, 1) := by decide +kernel
theorem jd_d_numberOfTrailingZeros_79 : decode jd_c_numberOfTrailingZeros 79 = .ok (.ireturn, 1) := by decide +kernel
theorem jd_d_bitCount_0 : decode jd_c_bitCount 0 = .ok (.iload_n 0, 1) := by decide +kernel
theorem jd_d_bitCount_1 : decode jd_c_bitCount 1 = .ok (.iload_n 0, 1) := by decide +kernel
theorem jd_d_bitCount_2 : decode jd_c_bitCount 2 = .ok (.iconst 1, 1) := by decide +kernel
theorem jd_d_bitCount_3 : decode jd_c_bitCount 3 = .ok (.iushr, 1) := by decide +kernel
theorem jd_d_bitCount_4 : decode jd_c_bitCount 4 = .ok (.ldc_w 265, 3) := by decide +kernel
theorem jd_d_bitCount_7 : decode jd_c_bitCount 7 = .ok (.iand, 1) := by decide +kernel
theorem jd_d_bitCount_8 : decode jd_c_bitCount 8 = .ok (.isub, 1) := by decide +kernel
theorem jd_d_bitCount_9 : decode jd_c_bitCount 9 = .ok (.istore_n 0, 1) := by decide +kernel
theorem jd_d_bitCount_10 : decode jd_c_bitCount 10 = .ok (.iload_n 0, 1) := by decide +kernel
theorem jd_d_bitCount_11 : decode jd_c_bitCount 11 = .ok (.ldc_w 266, 3) := by decide +kernel
theorem jd_d_bitCount_14 : decode jd_c_bitCount 14 = .ok (.iand, 1) := by decide +kernel
theorem jd_d_bitCount_15 : decode jd_c_bitCount 15 = .ok (.iload_n 0, 1) := by decide +kernel
theorem jd_d_bitCount_16 : decode jd_c_bitCount 16 = .ok (.iconst 2, 1) := by decide +kernel
theorem jd_d_bitCount_17 : decode jd_c_bitCount 17 = .ok (.iushr, 1) := by decide +kernel
theorem jd_d_bitCount_18 : decode jd_c_bitCount 18 = .ok (.ldc_w 266, 3) := by decide +kernel
theorem jd_d_bitCount_21 : decode jd_c_bitCount 21 = .ok (.iand, 1) := by decide +kernel
theorem jd_d_bitCount_22 : decode jd_c_bitCount 22 = .ok (.iadd, 1) := by decide +kernel
theorem jd_d_bitCount_23 : decode jd_c_bitCount 23 = .ok (.istore_n 0, 1) := by decide +kernel
theorem jd_d_bitCount_24 : decode jd_c_bitCount 24 = .ok (.iload_n 0, 1) := by decide +kernel
theorem jd_d_bitCount_25 : decode jd_c_bitCount 25 = .ok (.iload_n 0, 1) := by decide +kernel
theorem jd_d_bitCount_26 : decode jd_c_bitCount 26 = .ok (.iconst 4, 1) := by decide +kernel
theorem jd_d_bitCount_27 : decode jd_c_bitCount 27 = .ok (.iushr, 1) := by decide +kernel
theorem jd_d_bitCount_28 : decode jd_c_bitCount 28 = .ok (.iadd, 1) := by decide +kernel
theorem jd_d_bitCount_29 : decode jd_c_bitCount 29 = .ok (.ldc_w 267, 3) := by decide +kernel
theorem jd_d_bitCount_32 : decode jd_c_bitCount 32 = .ok (.iand, 1) := by decide +kernel
theorem jd_d_bitCount_33 : decode jd_c_bitCount 33 = .ok (.istore_n 0, 1) := by decide +kernel
theorem jd_d_bitCount_34 : decode jd_c_bitCount 34 = .ok (.iload_n 0, 1) := by decide +kernel
theorem jd_d_bitCount_35 : decode jd_c_bitCount 35 = .ok (.iload_n 0, 1) := by decide +kernel
theorem jd_d_bitCount_36 : decode jd_c_bitCount 36 = .ok (.bipush 8, 2) := by decide +kernel
theorem jd_d_bitCount_38 : decode jd_c_bitCount 38 = .ok (.iushr, 1) := by decide +kernel
theorem jd_d_bitCount_39 : decode jd_c_bitCount 39 = .ok (.iadd, 1) := by decide +kernel
theorem jd_d_bitCount_40 : decode jd_c_bitCount 40 = .ok (.istore_n 0, 1) := by decide +kernel
theorem jd_d_bitCount_41 : decode jd_c_bitCount 41 = .ok (.iload_n 0, 1) := by decide +kernel
theorem jd_d_bitCount_42 : decode jd_c_bitCount 42 = .ok (.iload_n 0, 1) := by decide +kernel
theorem jd_d_bitCount_43 : decode jd_c_bitCount 43 = .ok (.bipush 16, 2) := by decide +kernel
theorem jd_d_bitCount_45 : decode jd_c_bitCount 45 = .ok (.iushr, 1) := by decide +kernel
theorem jd_d_bitCount_46 : decode jd_c_bitCount 46 = .ok (.iadd, 1) := by decide +kernel
theorem jd_d_bitCount_47 : decode jd_c_bitCount 47 = .ok (.istore_n 0, 1) := by decide +kernel
theorem jd_d_bitCount_48 : decode jd_c_bitCount 48 = .ok (.iload_n 0, 1) := by decide +kernel
theorem jd_d_bitCount_49 : decode jd_c_bitCount 49 = .ok (.bipush 63, 2) := by decide +kernel
theorem jd_d_bitCount_51 : decode jd_c_bitCount 51 = .ok (.iand, 1) := by decide +kernel
theorem jd_d_bitCount_52 : decode jd_c_bitCount 52 = .ok (.ireturn, 1) := by decide +kernel
theorem jd_d_fill_0 : decode jd_c_fill 0 = .ok (.iconst 0, 1) := by decide +kernel
theorem jd_d_fill_1 : decode jd_c_fill 1 = .ok (.istore_n 2, 1) := by decide +kernel
theorem jd_d_fill_2 : decode jd_c_fill 2 = .ok (.aload_n 0, 1) := by decide +kernel
theorem jd_d_fill_3 : decode jd_c_fill 3 = .ok (.arraylength, 1) := by decide +kernel
theorem jd_d_fill_4 : decode jd_c_fill 4 = .ok (.istore_n 3, 1) := by decide +kernel
theorem jd_d_fill_5 : decode jd_c_fill 5 = .ok (.iload_n 2, 1) := by decide +kernel
theorem jd_d_fill_6 : decode jd_c_fill 6 = .ok (.iload_n 3, 1) := by decide +kernel
theorem jd_d_fill_7 : decode jd_c_fill 7 = .ok (.if_icmp .ge 13, 3) := by decide +kernel
theorem jd_d_fill_10 : decode jd_c_fill 10 = .ok (.aload_n 0, 1) := by decide +kernel
theorem jd_d_fill_11 : decode jd_c_fill 11 = .ok (.iload_n 2, 1) := by decide +kernel
theorem jd_d_fill_12 : decode jd_c_fill 12 = .ok (.iload_n 1, 1) := by decide +kernel
theorem jd_d_fill_13 : decode jd_c_fill 13 = .ok (.iastore, 1) := by decide +kernel
theorem jd_d_fill_14 : decode jd_c_fill 14 = .ok (.iinc 2 1, 3) := by decide +kernel
theorem jd_d_fill_17 : decode jd_c_fill 17 = .ok (.goto (-12), 3) := by decide +kernel
theorem jd_d_fill_20 : decode jd_c_fill 20 = .ok (.return_, 1) := by decide +kernel
