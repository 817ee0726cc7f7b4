theorem lp_d_init_0 : decode lp_c_init 0 = .ok (.aload_n 0, 1) := by decide +kernel
theorem lp_d_init_1 : decode lp_c_init 1 = .ok (.invokespecial 3, 3) := by decide +kernel
theorem lp_d_init_4 : decode lp_c_init 4 = .ok (.aload_n 0, 1) := by decide +kernel
theorem lp_d_init_5 : decode lp_c_init 5 = .ok (.bipush 16, 2) := by decide +kernel
theorem lp_d_init_7 : decode lp_c_init 7 = .ok (.newarray .int, 2) := by decide +kernel
theorem lp_d_init_9 : decode lp_c_init 9 = .ok (.putfield 9, 3) := by decide +kernel
theorem lp_d_init_12 : decode lp_c_init 12 = .ok (.aload_n 0, 1) := by decide +kernel
theorem lp_d_init_13 : decode lp_c_init 13 = .ok (.bipush 16, 2) := by decide +kernel
theorem lp_d_init_15 : decode lp_c_init 15 = .ok (.newarray .int, 2) := by decide +kernel
theorem lp_d_init_17 : decode lp_c_init 17 = .ok (.putfield 15, 3) := by decide +kernel
theorem lp_d_init_20 : decode lp_c_init 20 = .ok (.aload_n 0, 1) := by decide +kernel
theorem lp_d_init_21 : decode lp_c_init 21 = .ok (.bipush 17, 2) := by decide +kernel
theorem lp_d_init_23 : decode lp_c_init 23 = .ok (.bipush 16, 2) := by decide +kernel
theorem lp_d_init_25 : decode lp_c_init 25 = .ok (.multianewarray 18 2, 4) := by decide +kernel
theorem lp_d_init_29 : decode lp_c_init 29 = .ok (.putfield 20, 3) := by decide +kernel
theorem lp_d_init_32 : decode lp_c_init 32 = .ok (.return_, 1) := by decide +kernel
theorem lp_d_countWays_0 : decode lp_c_countWays 0 = .ok (.iconst 1, 1) := by decide +kernel
theorem lp_d_countWays_1 : decode lp_c_countWays 1 = .ok (.iload_n 0, 1) := by decide +kernel
theorem lp_d_countWays_2 : decode lp_c_countWays 2 = .ok (.ishl, 1) := by decide +kernel
theorem lp_d_countWays_3 : decode lp_c_countWays 3 = .ok (.iconst 1, 1) := by decide +kernel
theorem lp_d_countWays_4 : decode lp_c_countWays 4 = .ok (.isub, 1) := by decide +kernel
theorem lp_d_countWays_5 : decode lp_c_countWays 5 = .ok (.istore_n 1, 1) := by decide +kernel
theorem lp_d_countWays_6 : decode lp_c_countWays 6 = .ok (.iconst 1, 1) := by decide +kernel
theorem lp_d_countWays_7 : decode lp_c_countWays 7 = .ok (.getstatic 23, 3) := by decide +kernel
theorem lp_d_countWays_10 : decode lp_c_countWays 10 = .ok (.iload_n 0, 1) := by decide +kernel
theorem lp_d_countWays_11 : decode lp_c_countWays 11 = .ok (.iaload, 1) := by decide +kernel
theorem lp_d_countWays_12 : decode lp_c_countWays 12 = .ok (.iload_n 1, 1) := by decide +kernel
theorem lp_d_countWays_13 : decode lp_c_countWays 13 = .ok (.iadd, 1) := by decide +kernel
theorem lp_d_countWays_14 : decode lp_c_countWays 14 = .ok (.iload_n 0, 1) := by decide +kernel
theorem lp_d_countWays_15 : decode lp_c_countWays 15 = .ok (.isub, 1) := by decide +kernel
theorem lp_d_countWays_16 : decode lp_c_countWays 16 = .ok (.ishl, 1) := by decide +kernel
theorem lp_d_countWays_17 : decode lp_c_countWays 17 = .ok (.ireturn, 1) := by decide +kernel
theorem lp_d_find_0 : decode lp_c_find 0 = .ok (.aload_n 0, 1) := by decide +kernel
theorem lp_d_find_1 : decode lp_c_find 1 = .ok (.iconst 1, 1) := by decide +kernel
theorem lp_d_find_2 : decode lp_c_find 2 = .ok (.iload_n 2, 1) := by decide +kernel
theorem lp_d_find_3 : decode lp_c_find 3 = .ok (.ishl, 1) := by decide +kernel
theorem lp_d_find_4 : decode lp_c_find 4 = .ok (.iconst 1, 1) := by decide +kernel
theorem lp_d_find_5 : decode lp_c_find 5 = .ok (.isub, 1) := by decide +kernel
theorem lp_d_find_6 : decode lp_c_find 6 = .ok (.putfield 26, 3) := by decide +kernel
theorem lp_d_find_9 : decode lp_c_find 9 = .ok (.aload_n 0, 1) := by decide +kernel
theorem lp_d_find_10 : decode lp_c_find 10 = .ok (.sipush 1000, 3) := by decide +kernel
theorem lp_d_find_13 : decode lp_c_find 13 = .ok (.putfield 30, 3) := by decide +kernel
theorem lp_d_find_16 : decode lp_c_find 16 = .ok (.aload_n 0, 1) := by decide +kernel
theorem lp_d_find_17 : decode lp_c_find 17 = .ok (.sipush 1000, 3) := by decide +kernel
theorem lp_d_find_20 : decode lp_c_find 20 = .ok (.putfield 33, 3) := by decide +kernel
theorem lp_d_find_23 : decode lp_c_find 23 = .ok (.aload_n 1, 1) := by decide +kernel
theorem lp_d_find_24 : decode lp_c_find 24 = .ok (.iconst 0, 1) := by decide +kernel
theorem lp_d_find_25 : decode lp_c_find 25 = .ok (.aload_n 0, 1) := by decide +kernel
theorem lp_d_find_26 : decode lp_c_find 26 = .ok (.getfield 15, 3) := by decide +kernel
theorem lp_d_find_29 : decode lp_c_find 29 = .ok (.iconst 0, 1) := by decide +kernel
theorem lp_d_find_30 : decode lp_c_find 30 = .ok (.bipush 16, 2) := by decide +kernel
theorem lp_d_find_32 : decode lp_c_find 32 = .ok (.invokestatic 36, 3) := by decide +kernel
theorem lp_d_find_35 : decode lp_c_find 35 = .ok (.aload_n 0, 1) := by decide +kernel
theorem lp_d_find_36 : decode lp_c_find 36 = .ok (.invokevirtual 42, 3) := by decide +kernel
theorem lp_d_find_39 : decode lp_c_find 39 = .ok (.iconst 1, 1) := by decide +kernel
theorem lp_d_find_40 : decode lp_c_find 40 = .ok (.getstatic 23, 3) := by decide +kernel
theorem lp_d_find_43 : decode lp_c_find 43 = .ok (.iload_n 2, 1) := by decide +kernel
theorem lp_d_find_44 : decode lp_c_find 44 = .ok (.iaload, 1) := by decide +kernel
theorem lp_d_find_45 : decode lp_c_find 45 = .ok (.ishl, 1) := by decide +kernel
theorem lp_d_find_46 : decode lp_c_find 46 = .ok (.istore_n 3, 1) := by decide +kernel
theorem lp_d_find_47 : decode lp_c_find 47 = .ok (.iconst 1, 1) := by decide +kernel
theorem lp_d_find_48 : decode lp_c_find 48 = .ok (.istore 4, 2) := by decide +kernel
theorem lp_d_find_50 : decode lp_c_find 50 = .ok (.iload 4, 2) := by decide +kernel
theorem lp_d_find_52 : decode lp_c_find 52 = .ok (.iload_n 3, 1) := by decide +kernel
theorem lp_d_find_53 : decode lp_c_find 53 = .ok (.if_icmp .ge 22, 3) := by decide +kernel
theorem lp_d_find_56 : decode lp_c_find 56 = .ok (.aload_n 0, 1) := by decide +kernel
theorem lp_d_find_57 : decode lp_c_find 57 = .ok (.iload 4, 2) := by decide +kernel
theorem lp_d_find_59 : decode lp_c_find 59 = .ok (.invokestatic 45, 3) := by decide +kernel
theorem lp_d_find_62 : decode lp_c_find 62 = .ok (.invokevirtual 51, 3) := by decide +kernel
theorem lp_d_find_65 : decode lp_c_find 65 = .ok (.aload_n 0, 1) := by decide +kernel
theorem lp_d_find_66 : decode lp_c_find 66 = .ok (.invokevirtual 42, 3) := by decide +kernel
theorem lp_d_find_69 : decode lp_c_find 69 = .ok (.iinc 4 1, 3) := by decide +kernel
theorem lp_d_find_72 : decode lp_c_find 72 = .ok (.goto (-22), 3) := by decide +kernel
theorem lp_d_find_75 : decode lp_c_find 75 = .ok (.return_, 1) := by decide +kernel
theorem lp_d_shiftTried_0 : decode lp_c_shiftTried 0 = .ok (.getstatic 55, 3) := by decide +kernel
theorem lp_d_shiftTried_3 : decode lp_c_shiftTried 3 = .ok (.iload_n 1, 1) := by decide +kernel
theorem lp_d_shiftTried_4 : decode lp_c_shiftTried 4 = .ok (.iaload, 1) := by decide +kernel
theorem lp_d_shiftTried_5 : decode lp_c_shiftTried 5 = .ok (.istore_n 2, 1) := by decide +kernel
theorem lp_d_shiftTried_6 : decode lp_c_shiftTried 6 = .ok (.iconst 1, 1) := by decide +kernel
theorem lp_d_shiftTried_7 : decode lp_c_shiftTried 7 = .ok (.istore_n 3, 1) := by decide +kernel
theorem lp_d_shiftTried_8 : decode lp_c_shiftTried 8 = .ok (.iload_n 3, 1) := by decide +kernel
theorem lp_d_shiftTried_9 : decode lp_c_shiftTried 9 = .ok (.aload_n 0, 1) := by decide +kernel
theorem lp_d_shiftTried_10 : decode lp_c_shiftTried 10 = .ok (.getfield 26, 3) := by decide +kernel
theorem lp_d_shiftTried_13 : decode lp_c_shiftTried 13 = .ok (.if_icmp .gt 37, 3) := by decide +kernel
theorem lp_d_shiftTried_16 : decode lp_c_shiftTried 16 = .ok (.iload_n 3, 1) := by decide +kernel
theorem lp_d_shiftTried_17 : decode lp_c_shiftTried 17 = .ok (.iload_n 2, 1) := by decide +kernel
theorem lp_d_shiftTried_18 : decode lp_c_shiftTried 18 = .ok (.iand, 1) := by decide +kernel
theorem lp_d_shiftTried_19 : decode lp_c_shiftTried 19 = .ok (.iload_n 3, 1) := by decide +kernel
theorem lp_d_shiftTried_20 : decode lp_c_shiftTried 20 = .ok (.if_icmp .ne 24, 3) := by decide +kernel
theorem lp_d_shiftTried_23 : decode lp_c_shiftTried 23 = .ok (.aload_n 0, 1) := by decide +kernel
theorem lp_d_shiftTried_24 : decode lp_c_shiftTried 24 = .ok (.getfield 15, 3) := by decide +kernel
theorem lp_d_shiftTried_27 : decode lp_c_shiftTried 27 = .ok (.iload_n 3, 1) := by decide +kernel
theorem lp_d_shiftTried_28 : decode lp_c_shiftTried 28 = .ok (.aload_n 0, 1) := by decide +kernel
theorem lp_d_shiftTried_29 : decode lp_c_shiftTried 29 = .ok (.getfield 15, 3) := by decide +kernel
theorem lp_d_shiftTried_32 : decode lp_c_shiftTried 32 = .ok (.iload_n 3, 1) := by decide +kernel
theorem lp_d_shiftTried_33 : decode lp_c_shiftTried 33 = .ok (.iaload, 1) := by decide +kernel
theorem lp_d_shiftTried_34 : decode lp_c_shiftTried 34 = .ok (.getstatic 58, 3) := by decide +kernel
theorem lp_d_shiftTried_37 : decode lp_c_shiftTried 37 = .ok (.iload_n 1, 1) := by decide +kernel
theorem lp_d_shiftTried_38 : decode lp_c_shiftTried 38 = .ok (.iaload, 1) := by decide +kernel
theorem lp_d_shiftTried_39 : decode lp_c_shiftTried 39 = .ok (.iadd, 1) := by decide +kernel
theorem lp_d_shiftTried_40 : decode lp_c_shiftTried 40 = .ok (.bipush 7, 2) := by decide +kernel
theorem lp_d_shiftTried_42 : decode lp_c_shiftTried 42 = .ok (.iand, 1) := by decide +kernel
theorem lp_d_shiftTried_43 : decode lp_c_shiftTried 43 = .ok (.iastore, 1) := by decide +kernel
theorem lp_d_shiftTried_44 : decode lp_c_shiftTried 44 = .ok (.iinc 3 1, 3) := by decide +kernel
theorem lp_d_shiftTried_47 : decode lp_c_shiftTried 47 = .ok (.goto (-39), 3) := by decide +kernel
theorem lp_d_shiftTried_50 : decode lp_c_shiftTried 50 = .ok (.return_, 1) := by decide +kernel
theorem lp_d_lookAtTried_0 : decode lp_c_lookAtTried 0 = .ok (.aload_n 0, 1) := by decide +kernel
theorem lp_d_lookAtTried_1 : decode lp_c_lookAtTried 1 = .ok (.iconst 1, 1) := by decide +kernel
theorem lp_d_lookAtTried_2 : decode lp_c_lookAtTried 2 = .ok (.invokevirtual 61, 3) := by decide +kernel
theorem lp_d_lookAtTried_5 : decode lp_c_lookAtTried 5 = .ok (.istore_n 1, 1) := by decide +kernel
theorem lp_d_lookAtTried_6 : decode lp_c_lookAtTried 6 = .ok (.aload_n 0, 1) := by decide +kernel
theorem lp_d_lookAtTried_7 : decode lp_c_lookAtTried 7 = .ok (.iconst 3, 1) := by decide +kernel
theorem lp_d_lookAtTried_8 : decode lp_c_lookAtTried 8 = .ok (.invokevirtual 61, 3) := by decide +kernel
theorem lp_d_lookAtTried_11 : decode lp_c_lookAtTried 11 = .ok (.istore_n 2, 1) := by decide +kernel
theorem lp_d_lookAtTried_12 : decode lp_c_lookAtTried 12 = .ok (.iload_n 1, 1) := by decide +kernel
theorem lp_d_lookAtTried_13 : decode lp_c_lookAtTried 13 = .ok (.aload_n 0, 1) := by decide +kernel
theorem lp_d_lookAtTried_14 : decode lp_c_lookAtTried 14 = .ok (.getfield 30, 3) := by decide +kernel
theorem lp_d_lookAtTried_17 : decode lp_c_lookAtTried 17 = .ok (.if_icmp .gt 19, 3) := by decide +kernel
theorem lp_d_lookAtTried_20 : decode lp_c_lookAtTried 20 = .ok (.iload_n 1, 1) := by decide +kernel
theorem lp_d_lookAtTried_21 : decode lp_c_lookAtTried 21 = .ok (.aload_n 0, 1) := by decide +kernel
theorem lp_d_lookAtTried_22 : decode lp_c_lookAtTried 22 = .ok (.getfield 30, 3) := by decide +kernel
theorem lp_d_lookAtTried_25 : decode lp_c_lookAtTried 25 = .ok (.if_icmp .ne 12, 3) := by decide +kernel
theorem lp_d_lookAtTried_28 : decode lp_c_lookAtTried 28 = .ok (.iload_n 2, 1) := by decide +kernel
theorem lp_d_lookAtTried_29 : decode lp_c_lookAtTried 29 = .ok (.aload_n 0, 1) := by decide +kernel
theorem lp_d_lookAtTried_30 : decode lp_c_lookAtTried 30 = .ok (.getfield 33, 3) := by decide +kernel
theorem lp_d_lookAtTried_33 : decode lp_c_lookAtTried 33 = .ok (.if_icmp .le 4, 3) := by decide +kernel
theorem lp_d_lookAtTried_36 : decode lp_c_lookAtTried 36 = .ok (.return_, 1) := by decide +kernel
theorem lp_d_lookAtTried_37 : decode lp_c_lookAtTried 37 = .ok (.aload_n 0, 1) := by decide +kernel
theorem lp_d_lookAtTried_38 : decode lp_c_lookAtTried 38 = .ok (.invokevirtual 64, 3) := by decide +kernel
theorem lp_d_lookAtTried_41 : decode lp_c_lookAtTried 41 = .ok (.istore_n 3, 1) := by decide +kernel
theorem lp_d_lookAtTried_42 : decode lp_c_lookAtTried 42 = .ok (.aload_n 0, 1) := by decide +kernel
theorem lp_d_lookAtTried_43 : decode lp_c_lookAtTried 43 = .ok (.invokevirtual 68, 3) := by decide +kernel
theorem lp_d_lookAtTried_46 : decode lp_c_lookAtTried 46 = .ok (.aload_n 0, 1) := by decide +kernel
theorem lp_d_lookAtTried_47 : decode lp_c_lookAtTried 47 = .ok (.getfield 20, 3) := by decide +kernel
theorem lp_d_lookAtTried_50 : decode lp_c_lookAtTried 50 = .ok (.iconst 1, 1) := by decide +kernel
theorem lp_d_lookAtTried_51 : decode lp_c_lookAtTried 51 = .ok (.aaload, 1) := by decide +kernel
theorem lp_d_lookAtTried_52 : decode lp_c_lookAtTried 52 = .ok (.iload_n 3, 1) := by decide +kernel
theorem lp_d_lookAtTried_53 : decode lp_c_lookAtTried 53 = .ok (.iaload, 1) := by decide +kernel
theorem lp_d_lookAtTried_54 : decode lp_c_lookAtTried 54 = .ok (.istore 4, 2) := by decide +kernel
theorem lp_d_lookAtTried_56 : decode lp_c_lookAtTried 56 = .ok (.aload_n 0, 1) := by decide +kernel
theorem lp_d_lookAtTried_57 : decode lp_c_lookAtTried 57 = .ok (.iload_n 3, 1) := by decide +kernel
theorem lp_d_lookAtTried_58 : decode lp_c_lookAtTried 58 = .ok (.invokevirtual 71, 3) := by decide +kernel
theorem lp_d_lookAtTried_61 : decode lp_c_lookAtTried 61 = .ok (.iload_n 1, 1) := by decide +kernel
theorem lp_d_lookAtTried_62 : decode lp_c_lookAtTried 62 = .ok (.aload_n 0, 1) := by decide +kernel
theorem lp_d_lookAtTried_63 : decode lp_c_lookAtTried 63 = .ok (.getfield 30, 3) := by decide +kernel
theorem lp_d_lookAtTried_66 : decode lp_c_lookAtTried 66 = .ok (.if_icmp .lt 28, 3) := by decide +kernel
theorem lp_d_lookAtTried_69 : decode lp_c_lookAtTried 69 = .ok (.iload 4, 2) := by decide +kernel
theorem lp_d_lookAtTried_71 : decode lp_c_lookAtTried 71 = .ok (.aload_n 0, 1) := by decide +kernel
theorem lp_d_lookAtTried_72 : decode lp_c_lookAtTried 72 = .ok (.getfield 33, 3) := by decide +kernel
theorem lp_d_lookAtTried_75 : decode lp_c_lookAtTried 75 = .ok (.if_icmp .lt 19, 3) := by decide +kernel
theorem lp_d_lookAtTried_78 : decode lp_c_lookAtTried 78 = .ok (.iload 4, 2) := by decide +kernel
theorem lp_d_lookAtTried_80 : decode lp_c_lookAtTried 80 = .ok (.aload_n 0, 1) := by decide +kernel
theorem lp_d_lookAtTried_81 : decode lp_c_lookAtTried 81 = .ok (.getfield 33, 3) := by decide +kernel
theorem lp_d_lookAtTried_84 : decode lp_c_lookAtTried 84 = .ok (.if_icmp .ne 36, 3) := by decide +kernel
theorem lp_d_lookAtTried_87 : decode lp_c_lookAtTried 87 = .ok (.aload_n 0, 1) := by decide +kernel
theorem lp_d_lookAtTried_88 : decode lp_c_lookAtTried 88 = .ok (.invokevirtual 74, 3) := by decide +kernel
theorem lp_d_lookAtTried_91 : decode lp_c_lookAtTried 91 = .ok (.ifCond .eq 29, 3) := by decide +kernel
theorem lp_d_lookAtTried_94 : decode lp_c_lookAtTried 94 = .ok (.aload_n 0, 1) := by decide +kernel
theorem lp_d_lookAtTried_95 : decode lp_c_lookAtTried 95 = .ok (.iload_n 1, 1) := by decide +kernel
theorem lp_d_lookAtTried_96 : decode lp_c_lookAtTried 96 = .ok (.putfield 30, 3) := by decide +kernel
theorem lp_d_lookAtTried_99 : decode lp_c_lookAtTried 99 = .ok (.aload_n 0, 1) := by decide +kernel
theorem lp_d_lookAtTried_100 : decode lp_c_lookAtTried 100 = .ok (.iload 4, 2) := by decide +kernel
theorem lp_d_lookAtTried_102 : decode lp_c_lookAtTried 102 = .ok (.putfield 33, 3) := by decide +kernel
theorem lp_d_lookAtTried_105 : decode lp_c_lookAtTried 105 = .ok (.aload_n 0, 1) := by decide +kernel
theorem lp_d_lookAtTried_106 : decode lp_c_lookAtTried 106 = .ok (.getfield 15, 3) := by decide +kernel
theorem lp_d_lookAtTried_109 : decode lp_c_lookAtTried 109 = .ok (.iconst 0, 1) := by decide +kernel
theorem lp_d_lookAtTried_110 : decode lp_c_lookAtTried 110 = .ok (.aload_n 0, 1) := by decide +kernel
theorem lp_d_lookAtTried_111 : decode lp_c_lookAtTried 111 = .ok (.getfield 9, 3) := by decide +kernel
theorem lp_d_lookAtTried_114 : decode lp_c_lookAtTried 114 = .ok (.iconst 0, 1) := by decide +kernel
theorem lp_d_lookAtTried_115 : decode lp_c_lookAtTried 115 = .ok (.bipush 16, 2) := by decide +kernel
theorem lp_d_lookAtTried_117 : decode lp_c_lookAtTried 117 = .ok (.invokestatic 36, 3) := by decide +kernel
theorem lp_d_lookAtTried_120 : decode lp_c_lookAtTried 120 = .ok (.return_, 1) := by decide +kernel
theorem lp_d_countTried_0 : decode lp_c_countTried 0 = .ok (.iconst 0, 1) := by decide +kernel
theorem lp_d_countTried_1 : decode lp_c_countTried 1 = .ok (.istore_n 2, 1) := by decide +kernel
theorem lp_d_countTried_2 : decode lp_c_countTried 2 = .ok (.iconst 1, 1) := by decide +kernel
theorem lp_d_countTried_3 : decode lp_c_countTried 3 = .ok (.istore_n 3, 1) := by decide +kernel
theorem lp_d_countTried_4 : decode lp_c_countTried 4 = .ok (.iload_n 3, 1) := by decide +kernel
theorem lp_d_countTried_5 : decode lp_c_countTried 5 = .ok (.aload_n 0, 1) := by decide +kernel
theorem lp_d_countTried_6 : decode lp_c_countTried 6 = .ok (.getfield 26, 3) := by decide +kernel
theorem lp_d_countTried_9 : decode lp_c_countTried 9 = .ok (.if_icmp .gt 23, 3) := by decide +kernel
theorem lp_d_countTried_12 : decode lp_c_countTried 12 = .ok (.aload_n 0, 1) := by decide +kernel
theorem lp_d_countTried_13 : decode lp_c_countTried 13 = .ok (.getfield 15, 3) := by decide +kernel
theorem lp_d_countTried_16 : decode lp_c_countTried 16 = .ok (.iload_n 3, 1) := by decide +kernel
theorem lp_d_countTried_17 : decode lp_c_countTried 17 = .ok (.iaload, 1) := by decide +kernel
theorem lp_d_countTried_18 : decode lp_c_countTried 18 = .ok (.iload_n 1, 1) := by decide +kernel
theorem lp_d_countTried_19 : decode lp_c_countTried 19 = .ok (.iand, 1) := by decide +kernel
theorem lp_d_countTried_20 : decode lp_c_countTried 20 = .ok (.ifCond .eq 6, 3) := by decide +kernel
theorem lp_d_countTried_23 : decode lp_c_countTried 23 = .ok (.iinc 2 1, 3) := by decide +kernel
theorem lp_d_countTried_26 : decode lp_c_countTried 26 = .ok (.iinc 3 1, 3) := by decide +kernel
theorem lp_d_countTried_29 : decode lp_c_countTried 29 = .ok (.goto (-25), 3) := by decide +kernel
theorem lp_d_countTried_32 : decode lp_c_countTried 32 = .ok (.iload_n 2, 1) := by decide +kernel
theorem lp_d_countTried_33 : decode lp_c_countTried 33 = .ok (.ireturn, 1) := by decide +kernel
theorem lp_d_exclusiveOrOfFours_0 : decode lp_c_exclusiveOrOfFours 0 = .ok (.iconst 0, 1) := by decide +kernel
theorem lp_d_exclusiveOrOfFours_1 : decode lp_c_exclusiveOrOfFours 1 = .ok (.istore_n 1, 1) := by decide +kernel
theorem lp_d_exclusiveOrOfFours_2 : decode lp_c_exclusiveOrOfFours 2 = .ok (.iconst 1, 1) := by decide +kernel
theorem lp_d_exclusiveOrOfFours_3 : decode lp_c_exclusiveOrOfFours 3 = .ok (.istore_n 2, 1) := by decide +kernel
theorem lp_d_exclusiveOrOfFours_4 : decode lp_c_exclusiveOrOfFours 4 = .ok (.iload_n 2, 1) := by decide +kernel
theorem lp_d_exclusiveOrOfFours_5 : decode lp_c_exclusiveOrOfFours 5 = .ok (.aload_n 0, 1) := by decide +kernel
theorem lp_d_exclusiveOrOfFours_6 : decode lp_c_exclusiveOrOfFours 6 = .ok (.getfield 26, 3) := by decide +kernel
theorem lp_d_exclusiveOrOfFours_9 : decode lp_c_exclusiveOrOfFours 9 = .ok (.if_icmp .gt 24, 3) := by decide +kernel
theorem lp_d_exclusiveOrOfFours_12 : decode lp_c_exclusiveOrOfFours 12 = .ok (.aload_n 0, 1) := by decide +kernel
theorem lp_d_exclusiveOrOfFours_13 : decode lp_c_exclusiveOrOfFours 13 = .ok (.getfield 15, 3) := by decide +kernel
theorem lp_d_exclusiveOrOfFours_16 : decode lp_c_exclusiveOrOfFours 16 = .ok (.iload_n 2, 1) := by decide +kernel
theorem lp_d_exclusiveOrOfFours_17 : decode lp_c_exclusiveOrOfFours 17 = .ok (.iaload, 1) := by decide +kernel
theorem lp_d_exclusiveOrOfFours_18 : decode lp_c_exclusiveOrOfFours 18 = .ok (.iconst 4, 1) := by decide +kernel
theorem lp_d_exclusiveOrOfFours_19 : decode lp_c_exclusiveOrOfFours 19 = .ok (.iand, 1) := by decide +kernel
theorem lp_d_exclusiveOrOfFours_20 : decode lp_c_exclusiveOrOfFours 20 = .ok (.ifCond .eq 7, 3) := by decide +kernel
theorem lp_d_exclusiveOrOfFours_23 : decode lp_c_exclusiveOrOfFours 23 = .ok (.iload_n 1, 1) := by decide +kernel
theorem lp_d_exclusiveOrOfFours_24 : decode lp_c_exclusiveOrOfFours 24 = .ok (.iload_n 2, 1) := by decide +kernel
theorem lp_d_exclusiveOrOfFours_25 : decode lp_c_exclusiveOrOfFours 25 = .ok (.ixor, 1) := by decide +kernel
theorem lp_d_exclusiveOrOfFours_26 : decode lp_c_exclusiveOrOfFours 26 = .ok (.istore_n 1, 1) := by decide +kernel
theorem lp_d_exclusiveOrOfFours_27 : decode lp_c_exclusiveOrOfFours 27 = .ok (.iinc 2 1, 3) := by decide +kernel
theorem lp_d_exclusiveOrOfFours_30 : decode lp_c_exclusiveOrOfFours 30 = .ok (.goto (-26), 3) := by decide +kernel
theorem lp_d_exclusiveOrOfFours_33 : decode lp_c_exclusiveOrOfFours 33 = .ok (.iload_n 1, 1) := by decide +kernel
theorem lp_d_exclusiveOrOfFours_34 : decode lp_c_exclusiveOrOfFours 34 = .ok (.ireturn, 1) := by decide +kernel
theorem lp_d_fillFewest_0 : decode lp_c_fillFewest 0 = .ok (.aload_n 0, 1) := by decide +kernel
theorem lp_d_fillFewest_1 : decode lp_c_fillFewest 1 = .ok (.getfield 20, 3) := by decide +kernel
theorem lp_d_fillFewest_4 : decode lp_c_fillFewest 4 = .ok (.aload_n 0, 1) := by decide +kernel
theorem lp_d_fillFewest_5 : decode lp_c_fillFewest 5 = .ok (.getfield 26, 3) := by decide +kernel
theorem lp_d_fillFewest_8 : decode lp_c_fillFewest 8 = .ok (.iconst 1, 1) := by decide +kernel
theorem lp_d_fillFewest_9 : decode lp_c_fillFewest 9 = .ok (.iadd, 1) := by decide +kernel
theorem lp_d_fillFewest_10 : decode lp_c_fillFewest 10 = .ok (.aaload, 1) := by decide +kernel
theorem lp_d_fillFewest_11 : decode lp_c_fillFewest 11 = .ok (.sipush 1000, 3) := by decide +kernel
theorem lp_d_fillFewest_14 : decode lp_c_fillFewest 14 = .ok (.invokestatic 78, 3) := by decide +kernel
theorem lp_d_fillFewest_17 : decode lp_c_fillFewest 17 = .ok (.aload_n 0, 1) := by decide +kernel
theorem lp_d_fillFewest_18 : decode lp_c_fillFewest 18 = .ok (.getfield 20, 3) := by decide +kernel
theorem lp_d_fillFewest_21 : decode lp_c_fillFewest 21 = .ok (.aload_n 0, 1) := by decide +kernel
theorem lp_d_fillFewest_22 : decode lp_c_fillFewest 22 = .ok (.getfield 26, 3) := by decide +kernel
theorem lp_d_fillFewest_25 : decode lp_c_fillFewest 25 = .ok (.iconst 1, 1) := by decide +kernel
theorem lp_d_fillFewest_26 : decode lp_c_fillFewest 26 = .ok (.iadd, 1) := by decide +kernel
theorem lp_d_fillFewest_27 : decode lp_c_fillFewest 27 = .ok (.aaload, 1) := by decide +kernel
theorem lp_d_fillFewest_28 : decode lp_c_fillFewest 28 = .ok (.iconst 0, 1) := by decide +kernel
theorem lp_d_fillFewest_29 : decode lp_c_fillFewest 29 = .ok (.iconst 0, 1) := by decide +kernel
theorem lp_d_fillFewest_30 : decode lp_c_fillFewest 30 = .ok (.iastore, 1) := by decide +kernel
theorem lp_d_fillFewest_31 : decode lp_c_fillFewest 31 = .ok (.aload_n 0, 1) := by decide +kernel
theorem lp_d_fillFewest_32 : decode lp_c_fillFewest 32 = .ok (.getfield 26, 3) := by decide +kernel
theorem lp_d_fillFewest_35 : decode lp_c_fillFewest 35 = .ok (.istore_n 1, 1) := by decide +kernel
theorem lp_d_fillFewest_36 : decode lp_c_fillFewest 36 = .ok (.iload_n 1, 1) := by decide +kernel
theorem lp_d_fillFewest_37 : decode lp_c_fillFewest 37 = .ok (.iconst 1, 1) := by decide +kernel
theorem lp_d_fillFewest_38 : decode lp_c_fillFewest 38 = .ok (.if_icmp .lt 72, 3) := by decide +kernel
theorem lp_d_fillFewest_41 : decode lp_c_fillFewest 41 = .ok (.aload_n 0, 1) := by decide +kernel
theorem lp_d_fillFewest_42 : decode lp_c_fillFewest 42 = .ok (.getfield 20, 3) := by decide +kernel
theorem lp_d_fillFewest_45 : decode lp_c_fillFewest 45 = .ok (.iload_n 1, 1) := by decide +kernel
theorem lp_d_fillFewest_46 : decode lp_c_fillFewest 46 = .ok (.aaload, 1) := by decide +kernel
theorem lp_d_fillFewest_47 : decode lp_c_fillFewest 47 = .ok (.astore_n 2, 1) := by decide +kernel
theorem lp_d_fillFewest_48 : decode lp_c_fillFewest 48 = .ok (.aload_n 0, 1) := by decide +kernel
theorem lp_d_fillFewest_49 : decode lp_c_fillFewest 49 = .ok (.getfield 20, 3) := by decide +kernel
theorem lp_d_fillFewest_52 : decode lp_c_fillFewest 52 = .ok (.iload_n 1, 1) := by decide +kernel
theorem lp_d_fillFewest_53 : decode lp_c_fillFewest 53 = .ok (.iconst 1, 1) := by decide +kernel
theorem lp_d_fillFewest_54 : decode lp_c_fillFewest 54 = .ok (.iadd, 1) := by decide +kernel
theorem lp_d_fillFewest_55 : decode lp_c_fillFewest 55 = .ok (.aaload, 1) := by decide +kernel
theorem lp_d_fillFewest_56 : decode lp_c_fillFewest 56 = .ok (.astore_n 3, 1) := by decide +kernel
theorem lp_d_fillFewest_57 : decode lp_c_fillFewest 57 = .ok (.aload_n 0, 1) := by decide +kernel
theorem lp_d_fillFewest_58 : decode lp_c_fillFewest 58 = .ok (.iload_n 1, 1) := by decide +kernel
theorem lp_d_fillFewest_59 : decode lp_c_fillFewest 59 = .ok (.invokevirtual 84, 3) := by decide +kernel
theorem lp_d_fillFewest_62 : decode lp_c_fillFewest 62 = .ok (.istore 4, 2) := by decide +kernel
theorem lp_d_fillFewest_64 : decode lp_c_fillFewest 64 = .ok (.iconst 0, 1) := by decide +kernel
theorem lp_d_fillFewest_65 : decode lp_c_fillFewest 65 = .ok (.istore 5, 2) := by decide +kernel
theorem lp_d_fillFewest_67 : decode lp_c_fillFewest 67 = .ok (.iload 5, 2) := by decide +kernel
theorem lp_d_fillFewest_69 : decode lp_c_fillFewest 69 = .ok (.aload_n 0, 1) := by decide +kernel
theorem lp_d_fillFewest_70 : decode lp_c_fillFewest 70 = .ok (.getfield 26, 3) := by decide +kernel
theorem lp_d_fillFewest_73 : decode lp_c_fillFewest 73 = .ok (.if_icmp .gt 31, 3) := by decide +kernel
theorem lp_d_fillFewest_76 : decode lp_c_fillFewest 76 = .ok (.aload_n 2, 1) := by decide +kernel
theorem lp_d_fillFewest_77 : decode lp_c_fillFewest 77 = .ok (.iload 5, 2) := by decide +kernel
theorem lp_d_fillFewest_79 : decode lp_c_fillFewest 79 = .ok (.aload_n 3, 1) := by decide +kernel
theorem lp_d_fillFewest_80 : decode lp_c_fillFewest 80 = .ok (.iload 5, 2) := by decide +kernel
theorem lp_d_fillFewest_82 : decode lp_c_fillFewest 82 = .ok (.iaload, 1) := by decide +kernel
theorem lp_d_fillFewest_83 : decode lp_c_fillFewest 83 = .ok (.iload 4, 2) := by decide +kernel
theorem lp_d_fillFewest_85 : decode lp_c_fillFewest 85 = .ok (.iadd, 1) := by decide +kernel
theorem lp_d_fillFewest_86 : decode lp_c_fillFewest 86 = .ok (.aload_n 3, 1) := by decide +kernel
theorem lp_d_fillFewest_87 : decode lp_c_fillFewest 87 = .ok (.iload 5, 2) := by decide +kernel
theorem lp_d_fillFewest_89 : decode lp_c_fillFewest 89 = .ok (.iload_n 1, 1) := by decide +kernel
theorem lp_d_fillFewest_90 : decode lp_c_fillFewest 90 = .ok (.ixor, 1) := by decide +kernel
theorem lp_d_fillFewest_91 : decode lp_c_fillFewest 91 = .ok (.iaload, 1) := by decide +kernel
theorem lp_d_fillFewest_92 : decode lp_c_fillFewest 92 = .ok (.iconst 1, 1) := by decide +kernel
theorem lp_d_fillFewest_93 : decode lp_c_fillFewest 93 = .ok (.iadd, 1) := by decide +kernel
theorem lp_d_fillFewest_94 : decode lp_c_fillFewest 94 = .ok (.invokestatic 87, 3) := by decide +kernel
theorem lp_d_fillFewest_97 : decode lp_c_fillFewest 97 = .ok (.iastore, 1) := by decide +kernel
theorem lp_d_fillFewest_98 : decode lp_c_fillFewest 98 = .ok (.iinc 5 1, 3) := by decide +kernel
theorem lp_d_fillFewest_101 : decode lp_c_fillFewest 101 = .ok (.goto (-34), 3) := by decide +kernel
theorem lp_d_fillFewest_104 : decode lp_c_fillFewest 104 = .ok (.iinc 1 (-1), 3) := by decide +kernel
theorem lp_d_fillFewest_107 : decode lp_c_fillFewest 107 = .ok (.goto (-71), 3) := by decide +kernel
theorem lp_d_fillFewest_110 : decode lp_c_fillFewest 110 = .ok (.return_, 1) := by decide +kernel
theorem lp_d_costWithoutFour_0 : decode lp_c_costWithoutFour 0 = .ok (.aload_n 0, 1) := by decide +kernel
theorem lp_d_costWithoutFour_1 : decode lp_c_costWithoutFour 1 = .ok (.getfield 15, 3) := by decide +kernel
theorem lp_d_costWithoutFour_4 : decode lp_c_costWithoutFour 4 = .ok (.iload_n 1, 1) := by decide +kernel
theorem lp_d_costWithoutFour_5 : decode lp_c_costWithoutFour 5 = .ok (.iaload, 1) := by decide +kernel
theorem lp_d_costWithoutFour_6 : decode lp_c_costWithoutFour 6 = .ok (.iconst 3, 1) := by decide +kernel
theorem lp_d_costWithoutFour_7 : decode lp_c_costWithoutFour 7 = .ok (.iand, 1) := by decide +kernel
theorem lp_d_costWithoutFour_8 : decode lp_c_costWithoutFour 8 = .ok (.ifCond .ne 7, 3) := by decide +kernel
theorem lp_d_costWithoutFour_11 : decode lp_c_costWithoutFour 11 = .ok (.iconst 0, 1) := by decide +kernel
theorem lp_d_costWithoutFour_12 : decode lp_c_costWithoutFour 12 = .ok (.goto 4, 3) := by decide +kernel
theorem lp_d_costWithoutFour_15 : decode lp_c_costWithoutFour 15 = .ok (.iconst 1, 1) := by decide +kernel
theorem lp_d_costWithoutFour_16 : decode lp_c_costWithoutFour 16 = .ok (.ireturn, 1) := by decide +kernel
theorem lp_d_chooseFours_0 : decode lp_c_chooseFours 0 = .ok (.iload_n 1, 1) := by decide +kernel
theorem lp_d_chooseFours_1 : decode lp_c_chooseFours 1 = .ok (.istore_n 2, 1) := by decide +kernel
theorem lp_d_chooseFours_2 : decode lp_c_chooseFours 2 = .ok (.iconst 1, 1) := by decide +kernel
theorem lp_d_chooseFours_3 : decode lp_c_chooseFours 3 = .ok (.istore_n 3, 1) := by decide +kernel
theorem lp_d_chooseFours_4 : decode lp_c_chooseFours 4 = .ok (.iload_n 3, 1) := by decide +kernel
theorem lp_d_chooseFours_5 : decode lp_c_chooseFours 5 = .ok (.aload_n 0, 1) := by decide +kernel
theorem lp_d_chooseFours_6 : decode lp_c_chooseFours 6 = .ok (.getfield 26, 3) := by decide +kernel
theorem lp_d_chooseFours_9 : decode lp_c_chooseFours 9 = .ok (.if_icmp .gt 71, 3) := by decide +kernel
theorem lp_d_chooseFours_12 : decode lp_c_chooseFours 12 = .ok (.aload_n 0, 1) := by decide +kernel
theorem lp_d_chooseFours_13 : decode lp_c_chooseFours 13 = .ok (.getfield 15, 3) := by decide +kernel
theorem lp_d_chooseFours_16 : decode lp_c_chooseFours 16 = .ok (.iload_n 3, 1) := by decide +kernel
theorem lp_d_chooseFours_17 : decode lp_c_chooseFours 17 = .ok (.iaload, 1) := by decide +kernel
theorem lp_d_chooseFours_18 : decode lp_c_chooseFours 18 = .ok (.iconst 3, 1) := by decide +kernel
theorem lp_d_chooseFours_19 : decode lp_c_chooseFours 19 = .ok (.iand, 1) := by decide +kernel
theorem lp_d_chooseFours_20 : decode lp_c_chooseFours 20 = .ok (.istore 4, 2) := by decide +kernel
theorem lp_d_chooseFours_22 : decode lp_c_chooseFours 22 = .ok (.aload_n 0, 1) := by decide +kernel
theorem lp_d_chooseFours_23 : decode lp_c_chooseFours 23 = .ok (.getfield 20, 3) := by decide +kernel
theorem lp_d_chooseFours_26 : decode lp_c_chooseFours 26 = .ok (.iload_n 3, 1) := by decide +kernel
theorem lp_d_chooseFours_27 : decode lp_c_chooseFours 27 = .ok (.iconst 1, 1) := by decide +kernel
theorem lp_d_chooseFours_28 : decode lp_c_chooseFours 28 = .ok (.iadd, 1) := by decide +kernel
theorem lp_d_chooseFours_29 : decode lp_c_chooseFours 29 = .ok (.aaload, 1) := by decide +kernel
theorem lp_d_chooseFours_30 : decode lp_c_chooseFours 30 = .ok (.iload_n 2, 1) := by decide +kernel
theorem lp_d_chooseFours_31 : decode lp_c_chooseFours 31 = .ok (.iaload, 1) := by decide +kernel
theorem lp_d_chooseFours_32 : decode lp_c_chooseFours 32 = .ok (.aload_n 0, 1) := by decide +kernel
theorem lp_d_chooseFours_33 : decode lp_c_chooseFours 33 = .ok (.iload_n 3, 1) := by decide +kernel
theorem lp_d_chooseFours_34 : decode lp_c_chooseFours 34 = .ok (.invokevirtual 84, 3) := by decide +kernel
theorem lp_d_chooseFours_37 : decode lp_c_chooseFours 37 = .ok (.iadd, 1) := by decide +kernel
theorem lp_d_chooseFours_38 : decode lp_c_chooseFours 38 = .ok (.aload_n 0, 1) := by decide +kernel
theorem lp_d_chooseFours_39 : decode lp_c_chooseFours 39 = .ok (.getfield 20, 3) := by decide +kernel
theorem lp_d_chooseFours_42 : decode lp_c_chooseFours 42 = .ok (.iload_n 3, 1) := by decide +kernel
theorem lp_d_chooseFours_43 : decode lp_c_chooseFours 43 = .ok (.aaload, 1) := by decide +kernel
theorem lp_d_chooseFours_44 : decode lp_c_chooseFours 44 = .ok (.iload_n 2, 1) := by decide +kernel
theorem lp_d_chooseFours_45 : decode lp_c_chooseFours 45 = .ok (.iaload, 1) := by decide +kernel
theorem lp_d_chooseFours_46 : decode lp_c_chooseFours 46 = .ok (.if_icmp .ne 14, 3) := by decide +kernel
theorem lp_d_chooseFours_49 : decode lp_c_chooseFours 49 = .ok (.aload_n 0, 1) := by decide +kernel
theorem lp_d_chooseFours_50 : decode lp_c_chooseFours 50 = .ok (.getfield 15, 3) := by decide +kernel
theorem lp_d_chooseFours_53 : decode lp_c_chooseFours 53 = .ok (.iload_n 3, 1) := by decide +kernel
theorem lp_d_chooseFours_54 : decode lp_c_chooseFours 54 = .ok (.iload 4, 2) := by decide +kernel
theorem lp_d_chooseFours_56 : decode lp_c_chooseFours 56 = .ok (.iastore, 1) := by decide +kernel
theorem lp_d_chooseFours_57 : decode lp_c_chooseFours 57 = .ok (.goto 17, 3) := by decide +kernel
theorem lp_d_chooseFours_60 : decode lp_c_chooseFours 60 = .ok (.aload_n 0, 1) := by decide +kernel
theorem lp_d_chooseFours_61 : decode lp_c_chooseFours 61 = .ok (.getfield 15, 3) := by decide +kernel
theorem lp_d_chooseFours_64 : decode lp_c_chooseFours 64 = .ok (.iload_n 3, 1) := by decide +kernel
theorem lp_d_chooseFours_65 : decode lp_c_chooseFours 65 = .ok (.iload 4, 2) := by decide +kernel
theorem lp_d_chooseFours_67 : decode lp_c_chooseFours 67 = .ok (.iconst 4, 1) := by decide +kernel
theorem lp_d_chooseFours_68 : decode lp_c_chooseFours 68 = .ok (.iadd, 1) := by decide +kernel
theorem lp_d_chooseFours_69 : decode lp_c_chooseFours 69 = .ok (.iastore, 1) := by decide +kernel
theorem lp_d_chooseFours_70 : decode lp_c_chooseFours 70 = .ok (.iload_n 2, 1) := by decide +kernel
theorem lp_d_chooseFours_71 : decode lp_c_chooseFours 71 = .ok (.iload_n 3, 1) := by decide +kernel
theorem lp_d_chooseFours_72 : decode lp_c_chooseFours 72 = .ok (.ixor, 1) := by decide +kernel
theorem lp_d_chooseFours_73 : decode lp_c_chooseFours 73 = .ok (.istore_n 2, 1) := by decide +kernel
theorem lp_d_chooseFours_74 : decode lp_c_chooseFours 74 = .ok (.iinc 3 1, 3) := by decide +kernel
theorem lp_d_chooseFours_77 : decode lp_c_chooseFours 77 = .ok (.goto (-73), 3) := by decide +kernel
theorem lp_d_chooseFours_80 : decode lp_c_chooseFours 80 = .ok (.return_, 1) := by decide +kernel
theorem lp_d_triedComesFirst_0 : decode lp_c_triedComesFirst 0 = .ok (.iconst 1, 1) := by decide +kernel
theorem lp_d_triedComesFirst_1 : decode lp_c_triedComesFirst 1 = .ok (.istore_n 1, 1) := by decide +kernel
theorem lp_d_triedComesFirst_2 : decode lp_c_triedComesFirst 2 = .ok (.iload_n 1, 1) := by decide +kernel
theorem lp_d_triedComesFirst_3 : decode lp_c_triedComesFirst 3 = .ok (.aload_n 0, 1) := by decide +kernel
theorem lp_d_triedComesFirst_4 : decode lp_c_triedComesFirst 4 = .ok (.getfield 26, 3) := by decide +kernel
theorem lp_d_triedComesFirst_7 : decode lp_c_triedComesFirst 7 = .ok (.if_icmp .gt 45, 3) := by decide +kernel
theorem lp_d_triedComesFirst_10 : decode lp_c_triedComesFirst 10 = .ok (.aload_n 0, 1) := by decide +kernel
theorem lp_d_triedComesFirst_11 : decode lp_c_triedComesFirst 11 = .ok (.getfield 15, 3) := by decide +kernel
theorem lp_d_triedComesFirst_14 : decode lp_c_triedComesFirst 14 = .ok (.iload_n 1, 1) := by decide +kernel
theorem lp_d_triedComesFirst_15 : decode lp_c_triedComesFirst 15 = .ok (.iaload, 1) := by decide +kernel
theorem lp_d_triedComesFirst_16 : decode lp_c_triedComesFirst 16 = .ok (.aload_n 0, 1) := by decide +kernel
theorem lp_d_triedComesFirst_17 : decode lp_c_triedComesFirst 17 = .ok (.getfield 9, 3) := by decide +kernel
theorem lp_d_triedComesFirst_20 : decode lp_c_triedComesFirst 20 = .ok (.iload_n 1, 1) := by decide +kernel
theorem lp_d_triedComesFirst_21 : decode lp_c_triedComesFirst 21 = .ok (.iaload, 1) := by decide +kernel
theorem lp_d_triedComesFirst_22 : decode lp_c_triedComesFirst 22 = .ok (.if_icmp .eq 24, 3) := by decide +kernel
theorem lp_d_triedComesFirst_25 : decode lp_c_triedComesFirst 25 = .ok (.aload_n 0, 1) := by decide +kernel
theorem lp_d_triedComesFirst_26 : decode lp_c_triedComesFirst 26 = .ok (.getfield 15, 3) := by decide +kernel
theorem lp_d_triedComesFirst_29 : decode lp_c_triedComesFirst 29 = .ok (.iload_n 1, 1) := by decide +kernel
theorem lp_d_triedComesFirst_30 : decode lp_c_triedComesFirst 30 = .ok (.iaload, 1) := by decide +kernel
theorem lp_d_triedComesFirst_31 : decode lp_c_triedComesFirst 31 = .ok (.aload_n 0, 1) := by decide +kernel
theorem lp_d_triedComesFirst_32 : decode lp_c_triedComesFirst 32 = .ok (.getfield 9, 3) := by decide +kernel
theorem lp_d_triedComesFirst_35 : decode lp_c_triedComesFirst 35 = .ok (.iload_n 1, 1) := by decide +kernel
theorem lp_d_triedComesFirst_36 : decode lp_c_triedComesFirst 36 = .ok (.iaload, 1) := by decide +kernel
theorem lp_d_triedComesFirst_37 : decode lp_c_triedComesFirst 37 = .ok (.if_icmp .ge 7, 3) := by decide +kernel
theorem lp_d_triedComesFirst_40 : decode lp_c_triedComesFirst 40 = .ok (.iconst 1, 1) := by decide +kernel
theorem lp_d_triedComesFirst_41 : decode lp_c_triedComesFirst 41 = .ok (.goto 4, 3) := by decide +kernel
theorem lp_d_triedComesFirst_44 : decode lp_c_triedComesFirst 44 = .ok (.iconst 0, 1) := by decide +kernel
theorem lp_d_triedComesFirst_45 : decode lp_c_triedComesFirst 45 = .ok (.ireturn, 1) := by decide +kernel
theorem lp_d_triedComesFirst_46 : decode lp_c_triedComesFirst 46 = .ok (.iinc 1 1, 3) := by decide +kernel
theorem lp_d_triedComesFirst_49 : decode lp_c_triedComesFirst 49 = .ok (.goto (-47), 3) := by decide +kernel
theorem lp_d_triedComesFirst_52 : decode lp_c_triedComesFirst 52 = .ok (.iconst 0, 1) := by decide +kernel
theorem lp_d_triedComesFirst_53 : decode lp_c_triedComesFirst 53 = .ok (.ireturn, 1) := by decide +kernel
