theorem pm_d_setOf_0 : decode pm_c_setOf 0 = .ok (.iload_n 2, 1) := by decide +kernel
theorem pm_d_setOf_1 : decode pm_c_setOf 1 = .ok (.istore_n 3, 1) := by decide +kernel
theorem pm_d_setOf_2 : decode pm_c_setOf 2 = .ok (.iconst 1, 1) := by decide +kernel
theorem pm_d_setOf_3 : decode pm_c_setOf 3 = .ok (.istore 4, 2) := by decide +kernel
theorem pm_d_setOf_5 : decode pm_c_setOf 5 = .ok (.iload 4, 2) := by decide +kernel
theorem pm_d_setOf_7 : decode pm_c_setOf 7 = .ok (.aload_n 0, 1) := by decide +kernel
theorem pm_d_setOf_8 : decode pm_c_setOf 8 = .ok (.invokevirtual 79, 3) := by decide +kernel
theorem pm_d_setOf_11 : decode pm_c_setOf 11 = .ok (.if_icmp .ge 31, 3) := by decide +kernel
theorem pm_d_setOf_14 : decode pm_c_setOf 14 = .ok (.iload 4, 2) := by decide +kernel
theorem pm_d_setOf_16 : decode pm_c_setOf 16 = .ok (.invokestatic 83, 3) := by decide +kernel
theorem pm_d_setOf_19 : decode pm_c_setOf 19 = .ok (.iload_n 1, 1) := by decide +kernel
theorem pm_d_setOf_20 : decode pm_c_setOf 20 = .ok (.if_icmp .eq 6, 3) := by decide +kernel
theorem pm_d_setOf_23 : decode pm_c_setOf 23 = .ok (.goto 13, 3) := by decide +kernel
theorem pm_d_setOf_26 : decode pm_c_setOf 26 = .ok (.iload_n 3, 1) := by decide +kernel
theorem pm_d_setOf_27 : decode pm_c_setOf 27 = .ok (.ifCond .ne 6, 3) := by decide +kernel
theorem pm_d_setOf_30 : decode pm_c_setOf 30 = .ok (.iload 4, 2) := by decide +kernel
theorem pm_d_setOf_32 : decode pm_c_setOf 32 = .ok (.ireturn, 1) := by decide +kernel
theorem pm_d_setOf_33 : decode pm_c_setOf 33 = .ok (.iinc 3 (-1), 3) := by decide +kernel
theorem pm_d_setOf_36 : decode pm_c_setOf 36 = .ok (.iinc 4 1, 3) := by decide +kernel
theorem pm_d_setOf_39 : decode pm_c_setOf 39 = .ok (.goto (-34), 3) := by decide +kernel
theorem pm_d_setOf_42 : decode pm_c_setOf 42 = .ok (.iconst 0, 1) := by decide +kernel
theorem pm_d_setOf_43 : decode pm_c_setOf 43 = .ok (.ireturn, 1) := by decide +kernel
theorem pm_d_manySets_0 : decode pm_c_manySets 0 = .ok (.iconst 0, 1) := by decide +kernel
theorem pm_d_manySets_1 : decode pm_c_manySets 1 = .ok (.istore_n 2, 1) := by decide +kernel
theorem pm_d_manySets_2 : decode pm_c_manySets 2 = .ok (.iconst 1, 1) := by decide +kernel
theorem pm_d_manySets_3 : decode pm_c_manySets 3 = .ok (.istore_n 3, 1) := by decide +kernel
theorem pm_d_manySets_4 : decode pm_c_manySets 4 = .ok (.iload_n 3, 1) := by decide +kernel
theorem pm_d_manySets_5 : decode pm_c_manySets 5 = .ok (.aload_n 0, 1) := by decide +kernel
theorem pm_d_manySets_6 : decode pm_c_manySets 6 = .ok (.invokevirtual 79, 3) := by decide +kernel
theorem pm_d_manySets_9 : decode pm_c_manySets 9 = .ok (.if_icmp .ge 25, 3) := by decide +kernel
theorem pm_d_manySets_12 : decode pm_c_manySets 12 = .ok (.iload_n 2, 1) := by decide +kernel
theorem pm_d_manySets_13 : decode pm_c_manySets 13 = .ok (.iload_n 3, 1) := by decide +kernel
theorem pm_d_manySets_14 : decode pm_c_manySets 14 = .ok (.invokestatic 83, 3) := by decide +kernel
theorem pm_d_manySets_17 : decode pm_c_manySets 17 = .ok (.iload_n 1, 1) := by decide +kernel
theorem pm_d_manySets_18 : decode pm_c_manySets 18 = .ok (.if_icmp .ne 7, 3) := by decide +kernel
theorem pm_d_manySets_21 : decode pm_c_manySets 21 = .ok (.iconst 1, 1) := by decide +kernel
theorem pm_d_manySets_22 : decode pm_c_manySets 22 = .ok (.goto 4, 3) := by decide +kernel
theorem pm_d_manySets_25 : decode pm_c_manySets 25 = .ok (.iconst 0, 1) := by decide +kernel
theorem pm_d_manySets_26 : decode pm_c_manySets 26 = .ok (.iadd, 1) := by decide +kernel
theorem pm_d_manySets_27 : decode pm_c_manySets 27 = .ok (.istore_n 2, 1) := by decide +kernel
theorem pm_d_manySets_28 : decode pm_c_manySets 28 = .ok (.iinc 3 1, 3) := by decide +kernel
theorem pm_d_manySets_31 : decode pm_c_manySets 31 = .ok (.goto (-27), 3) := by decide +kernel
theorem pm_d_manySets_34 : decode pm_c_manySets 34 = .ok (.iload_n 2, 1) := by decide +kernel
theorem pm_d_manySets_35 : decode pm_c_manySets 35 = .ok (.ireturn, 1) := by decide +kernel
theorem pm_d_goThroughTwos_0 : decode pm_c_goThroughTwos 0 = .ok (.iconst 1, 1) := by decide +kernel
theorem pm_d_goThroughTwos_1 : decode pm_c_goThroughTwos 1 = .ok (.aload_n 0, 1) := by decide +kernel
theorem pm_d_goThroughTwos_2 : decode pm_c_goThroughTwos 2 = .ok (.iconst 2, 1) := by decide +kernel
theorem pm_d_goThroughTwos_3 : decode pm_c_goThroughTwos 3 = .ok (.invokevirtual 93, 3) := by decide +kernel
theorem pm_d_goThroughTwos_6 : decode pm_c_goThroughTwos 6 = .ok (.ishl, 1) := by decide +kernel
theorem pm_d_goThroughTwos_7 : decode pm_c_goThroughTwos 7 = .ok (.istore_n 1, 1) := by decide +kernel
theorem pm_d_goThroughTwos_8 : decode pm_c_goThroughTwos 8 = .ok (.aload_n 0, 1) := by decide +kernel
theorem pm_d_goThroughTwos_9 : decode pm_c_goThroughTwos 9 = .ok (.invokevirtual 96, 3) := by decide +kernel
theorem pm_d_goThroughTwos_12 : decode pm_c_goThroughTwos 12 = .ok (.iconst 1, 1) := by decide +kernel
theorem pm_d_goThroughTwos_13 : decode pm_c_goThroughTwos 13 = .ok (.istore_n 2, 1) := by decide +kernel
theorem pm_d_goThroughTwos_14 : decode pm_c_goThroughTwos 14 = .ok (.iload_n 2, 1) := by decide +kernel
theorem pm_d_goThroughTwos_15 : decode pm_c_goThroughTwos 15 = .ok (.iload_n 1, 1) := by decide +kernel
theorem pm_d_goThroughTwos_16 : decode pm_c_goThroughTwos 16 = .ok (.if_icmp .ge 40, 3) := by decide +kernel
theorem pm_d_goThroughTwos_19 : decode pm_c_goThroughTwos 19 = .ok (.iconst 0, 1) := by decide +kernel
theorem pm_d_goThroughTwos_20 : decode pm_c_goThroughTwos 20 = .ok (.istore_n 3, 1) := by decide +kernel
theorem pm_d_goThroughTwos_21 : decode pm_c_goThroughTwos 21 = .ok (.iload_n 2, 1) := by decide +kernel
theorem pm_d_goThroughTwos_22 : decode pm_c_goThroughTwos 22 = .ok (.iload_n 3, 1) := by decide +kernel
theorem pm_d_goThroughTwos_23 : decode pm_c_goThroughTwos 23 = .ok (.ishr, 1) := by decide +kernel
theorem pm_d_goThroughTwos_24 : decode pm_c_goThroughTwos 24 = .ok (.iconst 1, 1) := by decide +kernel
theorem pm_d_goThroughTwos_25 : decode pm_c_goThroughTwos 25 = .ok (.iand, 1) := by decide +kernel
theorem pm_d_goThroughTwos_26 : decode pm_c_goThroughTwos 26 = .ok (.ifCond .ne 9, 3) := by decide +kernel
theorem pm_d_goThroughTwos_29 : decode pm_c_goThroughTwos 29 = .ok (.iinc 3 1, 3) := by decide +kernel
theorem pm_d_goThroughTwos_32 : decode pm_c_goThroughTwos 32 = .ok (.goto (-11), 3) := by decide +kernel
theorem pm_d_goThroughTwos_35 : decode pm_c_goThroughTwos 35 = .ok (.aload_n 0, 1) := by decide +kernel
theorem pm_d_goThroughTwos_36 : decode pm_c_goThroughTwos 36 = .ok (.aload_n 0, 1) := by decide +kernel
theorem pm_d_goThroughTwos_37 : decode pm_c_goThroughTwos 37 = .ok (.getfield 22, 3) := by decide +kernel
theorem pm_d_goThroughTwos_40 : decode pm_c_goThroughTwos 40 = .ok (.iload_n 3, 1) := by decide +kernel
theorem pm_d_goThroughTwos_41 : decode pm_c_goThroughTwos 41 = .ok (.iaload, 1) := by decide +kernel
theorem pm_d_goThroughTwos_42 : decode pm_c_goThroughTwos 42 = .ok (.iconst 4, 1) := by decide +kernel
theorem pm_d_goThroughTwos_43 : decode pm_c_goThroughTwos 43 = .ok (.invokevirtual 99, 3) := by decide +kernel
theorem pm_d_goThroughTwos_46 : decode pm_c_goThroughTwos 46 = .ok (.aload_n 0, 1) := by decide +kernel
theorem pm_d_goThroughTwos_47 : decode pm_c_goThroughTwos 47 = .ok (.invokevirtual 96, 3) := by decide +kernel
theorem pm_d_goThroughTwos_50 : decode pm_c_goThroughTwos 50 = .ok (.iinc 2 1, 3) := by decide +kernel
theorem pm_d_goThroughTwos_53 : decode pm_c_goThroughTwos 53 = .ok (.goto (-39), 3) := by decide +kernel
theorem pm_d_goThroughTwos_56 : decode pm_c_goThroughTwos 56 = .ok (.iload_n 1, 1) := by decide +kernel
theorem pm_d_goThroughTwos_57 : decode pm_c_goThroughTwos 57 = .ok (.iconst 1, 1) := by decide +kernel
theorem pm_d_goThroughTwos_58 : decode pm_c_goThroughTwos 58 = .ok (.if_icmp .le 20, 3) := by decide +kernel
theorem pm_d_goThroughTwos_61 : decode pm_c_goThroughTwos 61 = .ok (.aload_n 0, 1) := by decide +kernel
theorem pm_d_goThroughTwos_62 : decode pm_c_goThroughTwos 62 = .ok (.aload_n 0, 1) := by decide +kernel
theorem pm_d_goThroughTwos_63 : decode pm_c_goThroughTwos 63 = .ok (.getfield 22, 3) := by decide +kernel
theorem pm_d_goThroughTwos_66 : decode pm_c_goThroughTwos 66 = .ok (.aload_n 0, 1) := by decide +kernel
theorem pm_d_goThroughTwos_67 : decode pm_c_goThroughTwos 67 = .ok (.iconst 2, 1) := by decide +kernel
theorem pm_d_goThroughTwos_68 : decode pm_c_goThroughTwos 68 = .ok (.invokevirtual 93, 3) := by decide +kernel
theorem pm_d_goThroughTwos_71 : decode pm_c_goThroughTwos 71 = .ok (.iconst 1, 1) := by decide +kernel
theorem pm_d_goThroughTwos_72 : decode pm_c_goThroughTwos 72 = .ok (.isub, 1) := by decide +kernel
theorem pm_d_goThroughTwos_73 : decode pm_c_goThroughTwos 73 = .ok (.iaload, 1) := by decide +kernel
theorem pm_d_goThroughTwos_74 : decode pm_c_goThroughTwos 74 = .ok (.iconst 4, 1) := by decide +kernel
theorem pm_d_goThroughTwos_75 : decode pm_c_goThroughTwos 75 = .ok (.invokevirtual 99, 3) := by decide +kernel
theorem pm_d_goThroughTwos_78 : decode pm_c_goThroughTwos 78 = .ok (.return_, 1) := by decide +kernel
theorem pm_d_goThroughThrees_0 : decode pm_c_goThroughThrees 0 = .ok (.aload_n 0, 1) := by decide +kernel
theorem pm_d_goThroughThrees_1 : decode pm_c_goThroughThrees 1 = .ok (.iconst 3, 1) := by decide +kernel
theorem pm_d_goThroughThrees_2 : decode pm_c_goThroughThrees 2 = .ok (.invokevirtual 93, 3) := by decide +kernel
theorem pm_d_goThroughThrees_5 : decode pm_c_goThroughThrees 5 = .ok (.istore_n 1, 1) := by decide +kernel
theorem pm_d_goThroughThrees_6 : decode pm_c_goThroughThrees 6 = .ok (.iconst 0, 1) := by decide +kernel
theorem pm_d_goThroughThrees_7 : decode pm_c_goThroughThrees 7 = .ok (.istore_n 2, 1) := by decide +kernel
theorem pm_d_goThroughThrees_8 : decode pm_c_goThroughThrees 8 = .ok (.iload_n 2, 1) := by decide +kernel
theorem pm_d_goThroughThrees_9 : decode pm_c_goThroughThrees 9 = .ok (.iconst 1, 1) := by decide +kernel
theorem pm_d_goThroughThrees_10 : decode pm_c_goThroughThrees 10 = .ok (.iconst 2, 1) := by decide +kernel
theorem pm_d_goThroughThrees_11 : decode pm_c_goThroughThrees 11 = .ok (.iload_n 1, 1) := by decide +kernel
theorem pm_d_goThroughThrees_12 : decode pm_c_goThroughThrees 12 = .ok (.imul, 1) := by decide +kernel
theorem pm_d_goThroughThrees_13 : decode pm_c_goThroughThrees 13 = .ok (.ishl, 1) := by decide +kernel
theorem pm_d_goThroughThrees_14 : decode pm_c_goThroughThrees 14 = .ok (.if_icmp .ge 78, 3) := by decide +kernel
theorem pm_d_goThroughThrees_17 : decode pm_c_goThroughThrees 17 = .ok (.iconst 0, 1) := by decide +kernel
theorem pm_d_goThroughThrees_18 : decode pm_c_goThroughThrees 18 = .ok (.istore_n 3, 1) := by decide +kernel
theorem pm_d_goThroughThrees_19 : decode pm_c_goThroughThrees 19 = .ok (.iload_n 3, 1) := by decide +kernel
theorem pm_d_goThroughThrees_20 : decode pm_c_goThroughThrees 20 = .ok (.iload_n 1, 1) := by decide +kernel
theorem pm_d_goThroughThrees_21 : decode pm_c_goThroughThrees 21 = .ok (.if_icmp .ge 28, 3) := by decide +kernel
theorem pm_d_goThroughThrees_24 : decode pm_c_goThroughThrees 24 = .ok (.aload_n 0, 1) := by decide +kernel
theorem pm_d_goThroughThrees_25 : decode pm_c_goThroughThrees 25 = .ok (.aload_n 0, 1) := by decide +kernel
theorem pm_d_goThroughThrees_26 : decode pm_c_goThroughThrees 26 = .ok (.iconst 3, 1) := by decide +kernel
theorem pm_d_goThroughThrees_27 : decode pm_c_goThroughThrees 27 = .ok (.iload_n 3, 1) := by decide +kernel
theorem pm_d_goThroughThrees_28 : decode pm_c_goThroughThrees 28 = .ok (.invokevirtual 103, 3) := by decide +kernel
theorem pm_d_goThroughThrees_31 : decode pm_c_goThroughThrees 31 = .ok (.iconst 2, 1) := by decide +kernel
theorem pm_d_goThroughThrees_32 : decode pm_c_goThroughThrees 32 = .ok (.iload_n 2, 1) := by decide +kernel
theorem pm_d_goThroughThrees_33 : decode pm_c_goThroughThrees 33 = .ok (.iconst 2, 1) := by decide +kernel
theorem pm_d_goThroughThrees_34 : decode pm_c_goThroughThrees 34 = .ok (.iload_n 3, 1) := by decide +kernel
theorem pm_d_goThroughThrees_35 : decode pm_c_goThroughThrees 35 = .ok (.imul, 1) := by decide +kernel
theorem pm_d_goThroughThrees_36 : decode pm_c_goThroughThrees 36 = .ok (.ishr, 1) := by decide +kernel
theorem pm_d_goThroughThrees_37 : decode pm_c_goThroughThrees 37 = .ok (.iconst 3, 1) := by decide +kernel
theorem pm_d_goThroughThrees_38 : decode pm_c_goThroughThrees 38 = .ok (.iand, 1) := by decide +kernel
theorem pm_d_goThroughThrees_39 : decode pm_c_goThroughThrees 39 = .ok (.imul, 1) := by decide +kernel
theorem pm_d_goThroughThrees_40 : decode pm_c_goThroughThrees 40 = .ok (.invokevirtual 99, 3) := by decide +kernel
theorem pm_d_goThroughThrees_43 : decode pm_c_goThroughThrees 43 = .ok (.iinc 3 1, 3) := by decide +kernel
theorem pm_d_goThroughThrees_46 : decode pm_c_goThroughThrees 46 = .ok (.goto (-27), 3) := by decide +kernel
theorem pm_d_goThroughThrees_49 : decode pm_c_goThroughThrees 49 = .ok (.aload_n 0, 1) := by decide +kernel
theorem pm_d_goThroughThrees_50 : decode pm_c_goThroughThrees 50 = .ok (.invokevirtual 107, 3) := by decide +kernel
theorem pm_d_goThroughThrees_53 : decode pm_c_goThroughThrees 53 = .ok (.iconst 0, 1) := by decide +kernel
theorem pm_d_goThroughThrees_54 : decode pm_c_goThroughThrees 54 = .ok (.istore_n 3, 1) := by decide +kernel
theorem pm_d_goThroughThrees_55 : decode pm_c_goThroughThrees 55 = .ok (.iload_n 3, 1) := by decide +kernel
theorem pm_d_goThroughThrees_56 : decode pm_c_goThroughThrees 56 = .ok (.iload_n 1, 1) := by decide +kernel
theorem pm_d_goThroughThrees_57 : decode pm_c_goThroughThrees 57 = .ok (.if_icmp .ge 29, 3) := by decide +kernel
theorem pm_d_goThroughThrees_60 : decode pm_c_goThroughThrees 60 = .ok (.aload_n 0, 1) := by decide +kernel
theorem pm_d_goThroughThrees_61 : decode pm_c_goThroughThrees 61 = .ok (.aload_n 0, 1) := by decide +kernel
theorem pm_d_goThroughThrees_62 : decode pm_c_goThroughThrees 62 = .ok (.iconst 3, 1) := by decide +kernel
theorem pm_d_goThroughThrees_63 : decode pm_c_goThroughThrees 63 = .ok (.iload_n 3, 1) := by decide +kernel
theorem pm_d_goThroughThrees_64 : decode pm_c_goThroughThrees 64 = .ok (.invokevirtual 103, 3) := by decide +kernel
theorem pm_d_goThroughThrees_67 : decode pm_c_goThroughThrees 67 = .ok (.bipush (-2), 2) := by decide +kernel
theorem pm_d_goThroughThrees_69 : decode pm_c_goThroughThrees 69 = .ok (.iload_n 2, 1) := by decide +kernel
theorem pm_d_goThroughThrees_70 : decode pm_c_goThroughThrees 70 = .ok (.iconst 2, 1) := by decide +kernel
theorem pm_d_goThroughThrees_71 : decode pm_c_goThroughThrees 71 = .ok (.iload_n 3, 1) := by decide +kernel
theorem pm_d_goThroughThrees_72 : decode pm_c_goThroughThrees 72 = .ok (.imul, 1) := by decide +kernel
theorem pm_d_goThroughThrees_73 : decode pm_c_goThroughThrees 73 = .ok (.ishr, 1) := by decide +kernel
theorem pm_d_goThroughThrees_74 : decode pm_c_goThroughThrees 74 = .ok (.iconst 3, 1) := by decide +kernel
theorem pm_d_goThroughThrees_75 : decode pm_c_goThroughThrees 75 = .ok (.iand, 1) := by decide +kernel
theorem pm_d_goThroughThrees_76 : decode pm_c_goThroughThrees 76 = .ok (.imul, 1) := by decide +kernel
theorem pm_d_goThroughThrees_77 : decode pm_c_goThroughThrees 77 = .ok (.invokevirtual 99, 3) := by decide +kernel
theorem pm_d_goThroughThrees_80 : decode pm_c_goThroughThrees 80 = .ok (.iinc 3 1, 3) := by decide +kernel
theorem pm_d_goThroughThrees_83 : decode pm_c_goThroughThrees 83 = .ok (.goto (-28), 3) := by decide +kernel
theorem pm_d_goThroughThrees_86 : decode pm_c_goThroughThrees 86 = .ok (.iinc 2 1, 3) := by decide +kernel
theorem pm_d_goThroughThrees_89 : decode pm_c_goThroughThrees 89 = .ok (.goto (-81), 3) := by decide +kernel
theorem pm_d_goThroughThrees_92 : decode pm_c_goThroughThrees 92 = .ok (.return_, 1) := by decide +kernel
theorem pm_d_oddNow_0 : decode pm_c_oddNow 0 = .ok (.iconst 0, 1) := by decide +kernel
theorem pm_d_oddNow_1 : decode pm_c_oddNow 1 = .ok (.istore_n 1, 1) := by decide +kernel
theorem pm_d_oddNow_2 : decode pm_c_oddNow 2 = .ok (.iconst 1, 1) := by decide +kernel
theorem pm_d_oddNow_3 : decode pm_c_oddNow 3 = .ok (.istore_n 2, 1) := by decide +kernel
theorem pm_d_oddNow_4 : decode pm_c_oddNow 4 = .ok (.iload_n 2, 1) := by decide +kernel
theorem pm_d_oddNow_5 : decode pm_c_oddNow 5 = .ok (.aload_n 0, 1) := by decide +kernel
theorem pm_d_oddNow_6 : decode pm_c_oddNow 6 = .ok (.invokevirtual 79, 3) := by decide +kernel
theorem pm_d_oddNow_9 : decode pm_c_oddNow 9 = .ok (.if_icmp .ge 20, 3) := by decide +kernel
theorem pm_d_oddNow_12 : decode pm_c_oddNow 12 = .ok (.iload_n 1, 1) := by decide +kernel
theorem pm_d_oddNow_13 : decode pm_c_oddNow 13 = .ok (.aload_n 0, 1) := by decide +kernel
theorem pm_d_oddNow_14 : decode pm_c_oddNow 14 = .ok (.getfield 16, 3) := by decide +kernel
theorem pm_d_oddNow_17 : decode pm_c_oddNow 17 = .ok (.iload_n 2, 1) := by decide +kernel
theorem pm_d_oddNow_18 : decode pm_c_oddNow 18 = .ok (.iaload, 1) := by decide +kernel
theorem pm_d_oddNow_19 : decode pm_c_oddNow 19 = .ok (.iconst 1, 1) := by decide +kernel
theorem pm_d_oddNow_20 : decode pm_c_oddNow 20 = .ok (.iand, 1) := by decide +kernel
theorem pm_d_oddNow_21 : decode pm_c_oddNow 21 = .ok (.iadd, 1) := by decide +kernel
theorem pm_d_oddNow_22 : decode pm_c_oddNow 22 = .ok (.istore_n 1, 1) := by decide +kernel
theorem pm_d_oddNow_23 : decode pm_c_oddNow 23 = .ok (.iinc 2 1, 3) := by decide +kernel
theorem pm_d_oddNow_26 : decode pm_c_oddNow 26 = .ok (.goto (-22), 3) := by decide +kernel
theorem pm_d_oddNow_29 : decode pm_c_oddNow 29 = .ok (.iload_n 1, 1) := by decide +kernel
theorem pm_d_oddNow_30 : decode pm_c_oddNow 30 = .ok (.ireturn, 1) := by decide +kernel
theorem pm_d_findLeast_0 : decode pm_c_findLeast 0 = .ok (.aload_n 0, 1) := by decide +kernel
theorem pm_d_findLeast_1 : decode pm_c_findLeast 1 = .ok (.getfield 66, 3) := by decide +kernel
theorem pm_d_findLeast_4 : decode pm_c_findLeast 4 = .ok (.ifCond .eq 4, 3) := by decide +kernel
theorem pm_d_findLeast_7 : decode pm_c_findLeast 7 = .ok (.return_, 1) := by decide +kernel
theorem pm_d_findLeast_8 : decode pm_c_findLeast 8 = .ok (.iconst 0, 1) := by decide +kernel
theorem pm_d_findLeast_9 : decode pm_c_findLeast 9 = .ok (.istore_n 1, 1) := by decide +kernel
theorem pm_d_findLeast_10 : decode pm_c_findLeast 10 = .ok (.iload_n 1, 1) := by decide +kernel
theorem pm_d_findLeast_11 : decode pm_c_findLeast 11 = .ok (.aload_n 0, 1) := by decide +kernel
theorem pm_d_findLeast_12 : decode pm_c_findLeast 12 = .ok (.iconst 2, 1) := by decide +kernel
theorem pm_d_findLeast_13 : decode pm_c_findLeast 13 = .ok (.invokevirtual 93, 3) := by decide +kernel
theorem pm_d_findLeast_16 : decode pm_c_findLeast 16 = .ok (.if_icmp .ge 21, 3) := by decide +kernel
theorem pm_d_findLeast_19 : decode pm_c_findLeast 19 = .ok (.aload_n 0, 1) := by decide +kernel
theorem pm_d_findLeast_20 : decode pm_c_findLeast 20 = .ok (.getfield 22, 3) := by decide +kernel
theorem pm_d_findLeast_23 : decode pm_c_findLeast 23 = .ok (.iload_n 1, 1) := by decide +kernel
theorem pm_d_findLeast_24 : decode pm_c_findLeast 24 = .ok (.aload_n 0, 1) := by decide +kernel
theorem pm_d_findLeast_25 : decode pm_c_findLeast 25 = .ok (.iconst 2, 1) := by decide +kernel
theorem pm_d_findLeast_26 : decode pm_c_findLeast 26 = .ok (.iload_n 1, 1) := by decide +kernel
theorem pm_d_findLeast_27 : decode pm_c_findLeast 27 = .ok (.invokevirtual 103, 3) := by decide +kernel
theorem pm_d_findLeast_30 : decode pm_c_findLeast 30 = .ok (.iastore, 1) := by decide +kernel
theorem pm_d_findLeast_31 : decode pm_c_findLeast 31 = .ok (.iinc 1 1, 3) := by decide +kernel
theorem pm_d_findLeast_34 : decode pm_c_findLeast 34 = .ok (.goto (-24), 3) := by decide +kernel
theorem pm_d_findLeast_37 : decode pm_c_findLeast 37 = .ok (.aload_n 0, 1) := by decide +kernel
theorem pm_d_findLeast_38 : decode pm_c_findLeast 38 = .ok (.bipush 16, 2) := by decide +kernel
theorem pm_d_findLeast_40 : decode pm_c_findLeast 40 = .ok (.putfield 87, 3) := by decide +kernel
theorem pm_d_findLeast_43 : decode pm_c_findLeast 43 = .ok (.aload_n 0, 1) := by decide +kernel
theorem pm_d_findLeast_44 : decode pm_c_findLeast 44 = .ok (.bipush 16, 2) := by decide +kernel
theorem pm_d_findLeast_46 : decode pm_c_findLeast 46 = .ok (.putfield 90, 3) := by decide +kernel
theorem pm_d_findLeast_49 : decode pm_c_findLeast 49 = .ok (.iconst 0, 1) := by decide +kernel
theorem pm_d_findLeast_50 : decode pm_c_findLeast 50 = .ok (.istore_n 1, 1) := by decide +kernel
theorem pm_d_findLeast_51 : decode pm_c_findLeast 51 = .ok (.iload_n 1, 1) := by decide +kernel
theorem pm_d_findLeast_52 : decode pm_c_findLeast 52 = .ok (.bipush 16, 2) := by decide +kernel
theorem pm_d_findLeast_54 : decode pm_c_findLeast 54 = .ok (.if_icmp .ge 33, 3) := by decide +kernel
theorem pm_d_findLeast_57 : decode pm_c_findLeast 57 = .ok (.aload_n 0, 1) := by decide +kernel
theorem pm_d_findLeast_58 : decode pm_c_findLeast 58 = .ok (.getfield 16, 3) := by decide +kernel
theorem pm_d_findLeast_61 : decode pm_c_findLeast 61 = .ok (.iload_n 1, 1) := by decide +kernel
theorem pm_d_findLeast_62 : decode pm_c_findLeast 62 = .ok (.aload_n 0, 1) := by decide +kernel
theorem pm_d_findLeast_63 : decode pm_c_findLeast 63 = .ok (.getfield 13, 3) := by decide +kernel
theorem pm_d_findLeast_66 : decode pm_c_findLeast 66 = .ok (.iload_n 1, 1) := by decide +kernel
theorem pm_d_findLeast_67 : decode pm_c_findLeast 67 = .ok (.iaload, 1) := by decide +kernel
theorem pm_d_findLeast_68 : decode pm_c_findLeast 68 = .ok (.iastore, 1) := by decide +kernel
theorem pm_d_findLeast_69 : decode pm_c_findLeast 69 = .ok (.aload_n 0, 1) := by decide +kernel
theorem pm_d_findLeast_70 : decode pm_c_findLeast 70 = .ok (.getfield 19, 3) := by decide +kernel
theorem pm_d_findLeast_73 : decode pm_c_findLeast 73 = .ok (.iload_n 1, 1) := by decide +kernel
theorem pm_d_findLeast_74 : decode pm_c_findLeast 74 = .ok (.aload_n 0, 1) := by decide +kernel
theorem pm_d_findLeast_75 : decode pm_c_findLeast 75 = .ok (.getfield 13, 3) := by decide +kernel
theorem pm_d_findLeast_78 : decode pm_c_findLeast 78 = .ok (.iload_n 1, 1) := by decide +kernel
theorem pm_d_findLeast_79 : decode pm_c_findLeast 79 = .ok (.iaload, 1) := by decide +kernel
theorem pm_d_findLeast_80 : decode pm_c_findLeast 80 = .ok (.iastore, 1) := by decide +kernel
theorem pm_d_findLeast_81 : decode pm_c_findLeast 81 = .ok (.iinc 1 1, 3) := by decide +kernel
theorem pm_d_findLeast_84 : decode pm_c_findLeast 84 = .ok (.goto (-33), 3) := by decide +kernel
theorem pm_d_findLeast_87 : decode pm_c_findLeast 87 = .ok (.iconst 0, 1) := by decide +kernel
theorem pm_d_findLeast_88 : decode pm_c_findLeast 88 = .ok (.istore_n 1, 1) := by decide +kernel
theorem pm_d_findLeast_89 : decode pm_c_findLeast 89 = .ok (.iload_n 1, 1) := by decide +kernel
theorem pm_d_findLeast_90 : decode pm_c_findLeast 90 = .ok (.aload_n 0, 1) := by decide +kernel
theorem pm_d_findLeast_91 : decode pm_c_findLeast 91 = .ok (.getfield 56, 3) := by decide +kernel
theorem pm_d_findLeast_94 : decode pm_c_findLeast 94 = .ok (.iconst 4, 1) := by decide +kernel
theorem pm_d_findLeast_95 : decode pm_c_findLeast 95 = .ok (.if_icmp .ne 8, 3) := by decide +kernel
theorem pm_d_findLeast_98 : decode pm_c_findLeast 98 = .ok (.bipush 8, 2) := by decide +kernel
theorem pm_d_findLeast_100 : decode pm_c_findLeast 100 = .ok (.goto 4, 3) := by decide +kernel
theorem pm_d_findLeast_103 : decode pm_c_findLeast 103 = .ok (.iconst 1, 1) := by decide +kernel
theorem pm_d_findLeast_104 : decode pm_c_findLeast 104 = .ok (.if_icmp .ge 35, 3) := by decide +kernel
theorem pm_d_findLeast_107 : decode pm_c_findLeast 107 = .ok (.iload_n 1, 1) := by decide +kernel
theorem pm_d_findLeast_108 : decode pm_c_findLeast 108 = .ok (.ifCond .le 10, 3) := by decide +kernel
theorem pm_d_findLeast_111 : decode pm_c_findLeast 111 = .ok (.aload_n 0, 1) := by decide +kernel
theorem pm_d_findLeast_112 : decode pm_c_findLeast 112 = .ok (.bipush 15, 2) := by decide +kernel
theorem pm_d_findLeast_114 : decode pm_c_findLeast 114 = .ok (.iconst 1, 1) := by decide +kernel
theorem pm_d_findLeast_115 : decode pm_c_findLeast 115 = .ok (.invokevirtual 99, 3) := by decide +kernel
theorem pm_d_findLeast_118 : decode pm_c_findLeast 118 = .ok (.aload_n 0, 1) := by decide +kernel
theorem pm_d_findLeast_119 : decode pm_c_findLeast 119 = .ok (.invokevirtual 110, 3) := by decide +kernel
theorem pm_d_findLeast_122 : decode pm_c_findLeast 122 = .ok (.aload_n 0, 1) := by decide +kernel
theorem pm_d_findLeast_123 : decode pm_c_findLeast 123 = .ok (.getfield 87, 3) := by decide +kernel
theorem pm_d_findLeast_126 : decode pm_c_findLeast 126 = .ok (.if_icmp .gt 7, 3) := by decide +kernel
theorem pm_d_findLeast_129 : decode pm_c_findLeast 129 = .ok (.aload_n 0, 1) := by decide +kernel
theorem pm_d_findLeast_130 : decode pm_c_findLeast 130 = .ok (.invokevirtual 113, 3) := by decide +kernel
theorem pm_d_findLeast_133 : decode pm_c_findLeast 133 = .ok (.iinc 1 1, 3) := by decide +kernel
theorem pm_d_findLeast_136 : decode pm_c_findLeast 136 = .ok (.goto (-47), 3) := by decide +kernel
theorem pm_d_findLeast_139 : decode pm_c_findLeast 139 = .ok (.aload_n 0, 1) := by decide +kernel
theorem pm_d_findLeast_140 : decode pm_c_findLeast 140 = .ok (.iconst 1, 1) := by decide +kernel
theorem pm_d_findLeast_141 : decode pm_c_findLeast 141 = .ok (.putfield 66, 3) := by decide +kernel
theorem pm_d_findLeast_144 : decode pm_c_findLeast 144 = .ok (.return_, 1) := by decide +kernel
theorem pm_d_least_0 : decode pm_c_least 0 = .ok (.aload_n 0, 1) := by decide +kernel
theorem pm_d_least_1 : decode pm_c_least 1 = .ok (.iconst 0, 1) := by decide +kernel
theorem pm_d_least_2 : decode pm_c_least 2 = .ok (.putfield 52, 3) := by decide +kernel
theorem pm_d_least_5 : decode pm_c_least 5 = .ok (.aload_n 0, 1) := by decide +kernel
theorem pm_d_least_6 : decode pm_c_least 6 = .ok (.invokevirtual 116, 3) := by decide +kernel
theorem pm_d_least_9 : decode pm_c_least 9 = .ok (.iload_n 1, 1) := by decide +kernel
theorem pm_d_least_10 : decode pm_c_least 10 = .ok (.ifCond .ne 8, 3) := by decide +kernel
theorem pm_d_least_13 : decode pm_c_least 13 = .ok (.aload_n 0, 1) := by decide +kernel
theorem pm_d_least_14 : decode pm_c_least 14 = .ok (.getfield 87, 3) := by decide +kernel
theorem pm_d_least_17 : decode pm_c_least 17 = .ok (.ireturn, 1) := by decide +kernel
theorem pm_d_least_18 : decode pm_c_least 18 = .ok (.iload_n 1, 1) := by decide +kernel
theorem pm_d_least_19 : decode pm_c_least 19 = .ok (.iconst 1, 1) := by decide +kernel
theorem pm_d_least_20 : decode pm_c_least 20 = .ok (.if_icmp .ne 8, 3) := by decide +kernel
theorem pm_d_least_23 : decode pm_c_least 23 = .ok (.aload_n 0, 1) := by decide +kernel
theorem pm_d_least_24 : decode pm_c_least 24 = .ok (.getfield 90, 3) := by decide +kernel
theorem pm_d_least_27 : decode pm_c_least 27 = .ok (.ireturn, 1) := by decide +kernel
theorem pm_d_least_28 : decode pm_c_least 28 = .ok (.iload_n 1, 1) := by decide +kernel
theorem pm_d_least_29 : decode pm_c_least 29 = .ok (.bipush 100, 2) := by decide +kernel
theorem pm_d_least_31 : decode pm_c_least 31 = .ok (.if_icmp .le 26, 3) := by decide +kernel
theorem pm_d_least_34 : decode pm_c_least 34 = .ok (.iload_n 1, 1) := by decide +kernel
theorem pm_d_least_35 : decode pm_c_least 35 = .ok (.bipush 100, 2) := by decide +kernel
theorem pm_d_least_37 : decode pm_c_least 37 = .ok (.aload_n 0, 1) := by decide +kernel
theorem pm_d_least_38 : decode pm_c_least 38 = .ok (.invokevirtual 79, 3) := by decide +kernel
theorem pm_d_least_41 : decode pm_c_least 41 = .ok (.iadd, 1) := by decide +kernel
theorem pm_d_least_42 : decode pm_c_least 42 = .ok (.if_icmp .ge 15, 3) := by decide +kernel
theorem pm_d_least_45 : decode pm_c_least 45 = .ok (.aload_n 0, 1) := by decide +kernel
theorem pm_d_least_46 : decode pm_c_least 46 = .ok (.getfield 19, 3) := by decide +kernel
theorem pm_d_least_49 : decode pm_c_least 49 = .ok (.iload_n 1, 1) := by decide +kernel
theorem pm_d_least_50 : decode pm_c_least 50 = .ok (.bipush 100, 2) := by decide +kernel
theorem pm_d_least_52 : decode pm_c_least 52 = .ok (.isub, 1) := by decide +kernel
theorem pm_d_least_53 : decode pm_c_least 53 = .ok (.iaload, 1) := by decide +kernel
theorem pm_d_least_54 : decode pm_c_least 54 = .ok (.goto 4, 3) := by decide +kernel
theorem pm_d_least_57 : decode pm_c_least 57 = .ok (.iconst (-1), 1) := by decide +kernel
theorem pm_d_least_58 : decode pm_c_least 58 = .ok (.ireturn, 1) := by decide +kernel
theorem pm_d_settle_0 : decode pm_c_settle 0 = .ok (.aload_n 0, 1) := by decide +kernel
theorem pm_d_settle_1 : decode pm_c_settle 1 = .ok (.iconst 0, 1) := by decide +kernel
theorem pm_d_settle_2 : decode pm_c_settle 2 = .ok (.putfield 52, 3) := by decide +kernel
theorem pm_d_settle_5 : decode pm_c_settle 5 = .ok (.aload_n 0, 1) := by decide +kernel
theorem pm_d_settle_6 : decode pm_c_settle 6 = .ok (.invokevirtual 116, 3) := by decide +kernel
theorem pm_d_settle_9 : decode pm_c_settle 9 = .ok (.iconst 0, 1) := by decide +kernel
theorem pm_d_settle_10 : decode pm_c_settle 10 = .ok (.istore_n 1, 1) := by decide +kernel
theorem pm_d_settle_11 : decode pm_c_settle 11 = .ok (.iconst 1, 1) := by decide +kernel
theorem pm_d_settle_12 : decode pm_c_settle 12 = .ok (.istore_n 2, 1) := by decide +kernel
theorem pm_d_settle_13 : decode pm_c_settle 13 = .ok (.iload_n 2, 1) := by decide +kernel
theorem pm_d_settle_14 : decode pm_c_settle 14 = .ok (.aload_n 0, 1) := by decide +kernel
theorem pm_d_settle_15 : decode pm_c_settle 15 = .ok (.invokevirtual 79, 3) := by decide +kernel
theorem pm_d_settle_18 : decode pm_c_settle 18 = .ok (.if_icmp .ge 44, 3) := by decide +kernel
theorem pm_d_settle_21 : decode pm_c_settle 21 = .ok (.iload_n 1, 1) := by decide +kernel
theorem pm_d_settle_22 : decode pm_c_settle 22 = .ok (.aload_n 0, 1) := by decide +kernel
theorem pm_d_settle_23 : decode pm_c_settle 23 = .ok (.getfield 13, 3) := by decide +kernel
theorem pm_d_settle_26 : decode pm_c_settle 26 = .ok (.iload_n 2, 1) := by decide +kernel
theorem pm_d_settle_27 : decode pm_c_settle 27 = .ok (.iaload, 1) := by decide +kernel
theorem pm_d_settle_28 : decode pm_c_settle 28 = .ok (.aload_n 0, 1) := by decide +kernel
theorem pm_d_settle_29 : decode pm_c_settle 29 = .ok (.getfield 19, 3) := by decide +kernel
theorem pm_d_settle_32 : decode pm_c_settle 32 = .ok (.iload_n 2, 1) := by decide +kernel
theorem pm_d_settle_33 : decode pm_c_settle 33 = .ok (.iaload, 1) := by decide +kernel
theorem pm_d_settle_34 : decode pm_c_settle 34 = .ok (.if_icmp .ne 7, 3) := by decide +kernel
theorem pm_d_settle_37 : decode pm_c_settle 37 = .ok (.iconst 0, 1) := by decide +kernel
theorem pm_d_settle_38 : decode pm_c_settle 38 = .ok (.goto 4, 3) := by decide +kernel
theorem pm_d_settle_41 : decode pm_c_settle 41 = .ok (.iconst 1, 1) := by decide +kernel
theorem pm_d_settle_42 : decode pm_c_settle 42 = .ok (.iadd, 1) := by decide +kernel
theorem pm_d_settle_43 : decode pm_c_settle 43 = .ok (.istore_n 1, 1) := by decide +kernel
theorem pm_d_settle_44 : decode pm_c_settle 44 = .ok (.aload_n 0, 1) := by decide +kernel
theorem pm_d_settle_45 : decode pm_c_settle 45 = .ok (.getfield 13, 3) := by decide +kernel
theorem pm_d_settle_48 : decode pm_c_settle 48 = .ok (.iload_n 2, 1) := by decide +kernel
theorem pm_d_settle_49 : decode pm_c_settle 49 = .ok (.aload_n 0, 1) := by decide +kernel
theorem pm_d_settle_50 : decode pm_c_settle 50 = .ok (.getfield 19, 3) := by decide +kernel
theorem pm_d_settle_53 : decode pm_c_settle 53 = .ok (.iload_n 2, 1) := by decide +kernel
theorem pm_d_settle_54 : decode pm_c_settle 54 = .ok (.iaload, 1) := by decide +kernel
theorem pm_d_settle_55 : decode pm_c_settle 55 = .ok (.iastore, 1) := by decide +kernel
theorem pm_d_settle_56 : decode pm_c_settle 56 = .ok (.iinc 2 1, 3) := by decide +kernel
theorem pm_d_settle_59 : decode pm_c_settle 59 = .ok (.goto (-46), 3) := by decide +kernel
theorem pm_d_settle_62 : decode pm_c_settle 62 = .ok (.iload_n 1, 1) := by decide +kernel
theorem pm_d_settle_63 : decode pm_c_settle 63 = .ok (.ireturn, 1) := by decide +kernel
theorem pm_d_come_0 : decode pm_c_come 0 = .ok (.aload_n 0, 1) := by decide +kernel
theorem pm_d_come_1 : decode pm_c_come 1 = .ok (.getfield 26, 3) := by decide +kernel
theorem pm_d_come_4 : decode pm_c_come 4 = .ok (.iload_n 1, 1) := by decide +kernel
theorem pm_d_come_5 : decode pm_c_come 5 = .ok (.baload, 1) := by decide +kernel
theorem pm_d_come_6 : decode pm_c_come 6 = .ok (.ifCond .eq 4, 3) := by decide +kernel
theorem pm_d_come_9 : decode pm_c_come 9 = .ok (.return_, 1) := by decide +kernel
theorem pm_d_come_10 : decode pm_c_come 10 = .ok (.aload_n 0, 1) := by decide +kernel
theorem pm_d_come_11 : decode pm_c_come 11 = .ok (.getfield 26, 3) := by decide +kernel
theorem pm_d_come_14 : decode pm_c_come 14 = .ok (.iload_n 1, 1) := by decide +kernel
theorem pm_d_come_15 : decode pm_c_come 15 = .ok (.iconst 1, 1) := by decide +kernel
theorem pm_d_come_16 : decode pm_c_come 16 = .ok (.bastore, 1) := by decide +kernel
theorem pm_d_come_17 : decode pm_c_come 17 = .ok (.aload_n 0, 1) := by decide +kernel
theorem pm_d_come_18 : decode pm_c_come 18 = .ok (.getfield 30, 3) := by decide +kernel
theorem pm_d_come_21 : decode pm_c_come 21 = .ok (.aload_n 0, 1) := by decide +kernel
theorem pm_d_come_22 : decode pm_c_come 22 = .ok (.getfield 119, 3) := by decide +kernel
theorem pm_d_come_25 : decode pm_c_come 25 = .ok (.iload_n 1, 1) := by decide +kernel
theorem pm_d_come_26 : decode pm_c_come 26 = .ok (.iastore, 1) := by decide +kernel
theorem pm_d_come_27 : decode pm_c_come 27 = .ok (.aload_n 0, 1) := by decide +kernel
theorem pm_d_come_28 : decode pm_c_come 28 = .ok (.getfield 33, 3) := by decide +kernel
theorem pm_d_come_31 : decode pm_c_come 31 = .ok (.aload_n 0, 1) := by decide +kernel
theorem pm_d_come_32 : decode pm_c_come 32 = .ok (.getfield 119, 3) := by decide +kernel
theorem pm_d_come_35 : decode pm_c_come 35 = .ok (.iload_n 2, 1) := by decide +kernel
theorem pm_d_come_36 : decode pm_c_come 36 = .ok (.iastore, 1) := by decide +kernel
theorem pm_d_come_37 : decode pm_c_come 37 = .ok (.aload_n 0, 1) := by decide +kernel
theorem pm_d_come_38 : decode pm_c_come 38 = .ok (.getfield 36, 3) := by decide +kernel
theorem pm_d_come_41 : decode pm_c_come 41 = .ok (.aload_n 0, 1) := by decide +kernel
theorem pm_d_come_42 : decode pm_c_come 42 = .ok (.getfield 119, 3) := by decide +kernel
theorem pm_d_come_45 : decode pm_c_come 45 = .ok (.iload_n 3, 1) := by decide +kernel
theorem pm_d_come_46 : decode pm_c_come 46 = .ok (.iastore, 1) := by decide +kernel
theorem pm_d_come_47 : decode pm_c_come 47 = .ok (.aload_n 0, 1) := by decide +kernel
theorem pm_d_come_48 : decode pm_c_come 48 = .ok (.dup, 1) := by decide +kernel
theorem pm_d_come_49 : decode pm_c_come 49 = .ok (.getfield 119, 3) := by decide +kernel
theorem pm_d_come_52 : decode pm_c_come 52 = .ok (.iconst 1, 1) := by decide +kernel
theorem pm_d_come_53 : decode pm_c_come 53 = .ok (.iadd, 1) := by decide +kernel
theorem pm_d_come_54 : decode pm_c_come 54 = .ok (.putfield 119, 3) := by decide +kernel
theorem pm_d_come_57 : decode pm_c_come 57 = .ok (.return_, 1) := by decide +kernel
theorem pm_d_beginPlan_0 : decode pm_c_beginPlan 0 = .ok (.iconst 0, 1) := by decide +kernel
theorem pm_d_beginPlan_1 : decode pm_c_beginPlan 1 = .ok (.istore_n 2, 1) := by decide +kernel
theorem pm_d_beginPlan_2 : decode pm_c_beginPlan 2 = .ok (.iload_n 2, 1) := by decide +kernel
theorem pm_d_beginPlan_3 : decode pm_c_beginPlan 3 = .ok (.ldc 25, 2) := by decide +kernel
theorem pm_d_beginPlan_5 : decode pm_c_beginPlan 5 = .ok (.if_icmp .ge 16, 3) := by decide +kernel
theorem pm_d_beginPlan_8 : decode pm_c_beginPlan 8 = .ok (.aload_n 0, 1) := by decide +kernel
theorem pm_d_beginPlan_9 : decode pm_c_beginPlan 9 = .ok (.getfield 26, 3) := by decide +kernel
theorem pm_d_beginPlan_12 : decode pm_c_beginPlan 12 = .ok (.iload_n 2, 1) := by decide +kernel
theorem pm_d_beginPlan_13 : decode pm_c_beginPlan 13 = .ok (.iconst 0, 1) := by decide +kernel
theorem pm_d_beginPlan_14 : decode pm_c_beginPlan 14 = .ok (.bastore, 1) := by decide +kernel
theorem pm_d_beginPlan_15 : decode pm_c_beginPlan 15 = .ok (.iinc 2 1, 3) := by decide +kernel
theorem pm_d_beginPlan_18 : decode pm_c_beginPlan 18 = .ok (.goto (-16), 3) := by decide +kernel
theorem pm_d_beginPlan_21 : decode pm_c_beginPlan 21 = .ok (.aload_n 0, 1) := by decide +kernel
theorem pm_d_beginPlan_22 : decode pm_c_beginPlan 22 = .ok (.iconst 0, 1) := by decide +kernel
theorem pm_d_beginPlan_23 : decode pm_c_beginPlan 23 = .ok (.putfield 119, 3) := by decide +kernel
theorem pm_d_beginPlan_26 : decode pm_c_beginPlan 26 = .ok (.aload_n 0, 1) := by decide +kernel
theorem pm_d_beginPlan_27 : decode pm_c_beginPlan 27 = .ok (.iload_n 1, 1) := by decide +kernel
theorem pm_d_beginPlan_28 : decode pm_c_beginPlan 28 = .ok (.iconst (-1), 1) := by decide +kernel
theorem pm_d_beginPlan_29 : decode pm_c_beginPlan 29 = .ok (.iconst (-1), 1) := by decide +kernel
theorem pm_d_beginPlan_30 : decode pm_c_beginPlan 30 = .ok (.invokevirtual 122, 3) := by decide +kernel
theorem pm_d_beginPlan_33 : decode pm_c_beginPlan 33 = .ok (.return_, 1) := by decide +kernel
