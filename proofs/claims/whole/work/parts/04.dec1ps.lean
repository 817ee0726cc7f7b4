theorem ps_d_init_0 : decode ps_c_init 0 = .ok (.aload_n 0, 1) := by decide +kernel
theorem ps_d_init_1 : decode ps_c_init 1 = .ok (.invokespecial 3, 3) := by decide +kernel
theorem ps_d_init_4 : decode ps_c_init 4 = .ok (.aload_n 0, 1) := by decide +kernel
theorem ps_d_init_5 : decode ps_c_init 5 = .ok (.iload_n 1, 1) := by decide +kernel
theorem ps_d_init_6 : decode ps_c_init 6 = .ok (.putfield 9, 3) := by decide +kernel
theorem ps_d_init_9 : decode ps_c_init 9 = .ok (.aload_n 0, 1) := by decide +kernel
theorem ps_d_init_10 : decode ps_c_init 10 = .ok (.iload_n 1, 1) := by decide +kernel
theorem ps_d_init_11 : decode ps_c_init 11 = .ok (.iload_n 1, 1) := by decide +kernel
theorem ps_d_init_12 : decode ps_c_init 12 = .ok (.imul, 1) := by decide +kernel
theorem ps_d_init_13 : decode ps_c_init 13 = .ok (.putfield 15, 3) := by decide +kernel
theorem ps_d_init_16 : decode ps_c_init 16 = .ok (.aload_n 0, 1) := by decide +kernel
theorem ps_d_init_17 : decode ps_c_init 17 = .ok (.iload_n 1, 1) := by decide +kernel
theorem ps_d_init_18 : decode ps_c_init 18 = .ok (.iconst 4, 1) := by decide +kernel
theorem ps_d_init_19 : decode ps_c_init 19 = .ok (.if_icmp .ge 7, 3) := by decide +kernel
theorem ps_d_init_22 : decode ps_c_init 22 = .ok (.iconst 1, 1) := by decide +kernel
theorem ps_d_init_23 : decode ps_c_init 23 = .ok (.goto 4, 3) := by decide +kernel
theorem ps_d_init_26 : decode ps_c_init 26 = .ok (.iconst 0, 1) := by decide +kernel
theorem ps_d_init_27 : decode ps_c_init 27 = .ok (.putfield 18, 3) := by decide +kernel
theorem ps_d_init_30 : decode ps_c_init 30 = .ok (.aload_n 0, 1) := by decide +kernel
theorem ps_d_init_31 : decode ps_c_init 31 = .ok (.getfield 15, 3) := by decide +kernel
theorem ps_d_init_34 : decode ps_c_init 34 = .ok (.aload_n 0, 1) := by decide +kernel
theorem ps_d_init_35 : decode ps_c_init 35 = .ok (.getfield 18, 3) := by decide +kernel
theorem ps_d_init_38 : decode ps_c_init 38 = .ok (.ifCond .eq 11, 3) := by decide +kernel
theorem ps_d_init_41 : decode ps_c_init 41 = .ok (.iconst 1, 1) := by decide +kernel
theorem ps_d_init_42 : decode ps_c_init 42 = .ok (.iload_n 1, 1) := by decide +kernel
theorem ps_d_init_43 : decode ps_c_init 43 = .ok (.ishl, 1) := by decide +kernel
theorem ps_d_init_44 : decode ps_c_init 44 = .ok (.iconst 1, 1) := by decide +kernel
theorem ps_d_init_45 : decode ps_c_init 45 = .ok (.isub, 1) := by decide +kernel
theorem ps_d_init_46 : decode ps_c_init 46 = .ok (.goto 4, 3) := by decide +kernel
theorem ps_d_init_49 : decode ps_c_init 49 = .ok (.iconst 0, 1) := by decide +kernel
theorem ps_d_init_50 : decode ps_c_init 50 = .ok (.iadd, 1) := by decide +kernel
theorem ps_d_init_51 : decode ps_c_init 51 = .ok (.istore_n 2, 1) := by decide +kernel
theorem ps_d_init_52 : decode ps_c_init 52 = .ok (.aload_n 0, 1) := by decide +kernel
theorem ps_d_init_53 : decode ps_c_init 53 = .ok (.getstatic 22, 3) := by decide +kernel
theorem ps_d_init_56 : decode ps_c_init 56 = .ok (.iload_n 1, 1) := by decide +kernel
theorem ps_d_init_57 : decode ps_c_init 57 = .ok (.iaload, 1) := by decide +kernel
theorem ps_d_init_58 : decode ps_c_init 58 = .ok (.newarray .long, 2) := by decide +kernel
theorem ps_d_init_60 : decode ps_c_init 60 = .ok (.putfield 26, 3) := by decide +kernel
theorem ps_d_init_63 : decode ps_c_init 63 = .ok (.aload_n 0, 1) := by decide +kernel
theorem ps_d_init_64 : decode ps_c_init 64 = .ok (.iconst 1, 1) := by decide +kernel
theorem ps_d_init_65 : decode ps_c_init 65 = .ok (.iload_n 2, 1) := by decide +kernel
theorem ps_d_init_66 : decode ps_c_init 66 = .ok (.ishl, 1) := by decide +kernel
theorem ps_d_init_67 : decode ps_c_init 67 = .ok (.iconst 5, 1) := by decide +kernel
theorem ps_d_init_68 : decode ps_c_init 68 = .ok (.ishr, 1) := by decide +kernel
theorem ps_d_init_69 : decode ps_c_init 69 = .ok (.iconst 1, 1) := by decide +kernel
theorem ps_d_init_70 : decode ps_c_init 70 = .ok (.iadd, 1) := by decide +kernel
theorem ps_d_init_71 : decode ps_c_init 71 = .ok (.newarray .int, 2) := by decide +kernel
theorem ps_d_init_73 : decode ps_c_init 73 = .ok (.putfield 30, 3) := by decide +kernel
theorem ps_d_init_76 : decode ps_c_init 76 = .ok (.iconst 0, 1) := by decide +kernel
theorem ps_d_init_77 : decode ps_c_init 77 = .ok (.istore_n 3, 1) := by decide +kernel
theorem ps_d_init_78 : decode ps_c_init 78 = .ok (.iconst 0, 1) := by decide +kernel
theorem ps_d_init_79 : decode ps_c_init 79 = .ok (.istore 4, 2) := by decide +kernel
theorem ps_d_init_81 : decode ps_c_init 81 = .ok (.iload 4, 2) := by decide +kernel
theorem ps_d_init_83 : decode ps_c_init 83 = .ok (.iload_n 1, 1) := by decide +kernel
theorem ps_d_init_84 : decode ps_c_init 84 = .ok (.if_icmp .ge 21, 3) := by decide +kernel
theorem ps_d_init_87 : decode ps_c_init 87 = .ok (.aload_n 0, 1) := by decide +kernel
theorem ps_d_init_88 : decode ps_c_init 88 = .ok (.iload_n 3, 1) := by decide +kernel
theorem ps_d_init_89 : decode ps_c_init 89 = .ok (.iload 4, 2) := by decide +kernel
theorem ps_d_init_91 : decode ps_c_init 91 = .ok (.iconst 1, 1) := by decide +kernel
theorem ps_d_init_92 : decode ps_c_init 92 = .ok (.iload 4, 2) := by decide +kernel
theorem ps_d_init_94 : decode ps_c_init 94 = .ok (.ishl, 1) := by decide +kernel
theorem ps_d_init_95 : decode ps_c_init 95 = .ok (.invokevirtual 33, 3) := by decide +kernel
theorem ps_d_init_98 : decode ps_c_init 98 = .ok (.istore_n 3, 1) := by decide +kernel
theorem ps_d_init_99 : decode ps_c_init 99 = .ok (.iinc 4 1, 3) := by decide +kernel
theorem ps_d_init_102 : decode ps_c_init 102 = .ok (.goto (-21), 3) := by decide +kernel
theorem ps_d_init_105 : decode ps_c_init 105 = .ok (.aload_n 0, 1) := by decide +kernel
theorem ps_d_init_106 : decode ps_c_init 106 = .ok (.iload_n 3, 1) := by decide +kernel
theorem ps_d_init_107 : decode ps_c_init 107 = .ok (.iconst 0, 1) := by decide +kernel
theorem ps_d_init_108 : decode ps_c_init 108 = .ok (.iconst 0, 1) := by decide +kernel
theorem ps_d_init_109 : decode ps_c_init 109 = .ok (.invokevirtual 37, 3) := by decide +kernel
theorem ps_d_init_112 : decode ps_c_init 112 = .ok (.return_, 1) := by decide +kernel
theorem ps_d_find_0 : decode ps_c_find 0 = .ok (.iload_n 1, 1) := by decide +kernel
theorem ps_d_find_1 : decode ps_c_find 1 = .ok (.iload_n 2, 1) := by decide +kernel
theorem ps_d_find_2 : decode ps_c_find 2 = .ok (.aload_n 0, 1) := by decide +kernel
theorem ps_d_find_3 : decode ps_c_find 3 = .ok (.getfield 15, 3) := by decide +kernel
theorem ps_d_find_6 : decode ps_c_find 6 = .ok (.ishl, 1) := by decide +kernel
theorem ps_d_find_7 : decode ps_c_find 7 = .ok (.ior, 1) := by decide +kernel
theorem ps_d_find_8 : decode ps_c_find 8 = .ok (.istore_n 3, 1) := by decide +kernel
theorem ps_d_find_9 : decode ps_c_find 9 = .ok (.iconst 1, 1) := by decide +kernel
theorem ps_d_find_10 : decode ps_c_find 10 = .ok (.aload_n 0, 1) := by decide +kernel
theorem ps_d_find_11 : decode ps_c_find 11 = .ok (.getfield 15, 3) := by decide +kernel
theorem ps_d_find_14 : decode ps_c_find 14 = .ok (.ishl, 1) := by decide +kernel
theorem ps_d_find_15 : decode ps_c_find 15 = .ok (.iconst 1, 1) := by decide +kernel
theorem ps_d_find_16 : decode ps_c_find 16 = .ok (.isub, 1) := by decide +kernel
theorem ps_d_find_17 : decode ps_c_find 17 = .ok (.iload_n 2, 1) := by decide +kernel
theorem ps_d_find_18 : decode ps_c_find 18 = .ok (.aload_n 0, 1) := by decide +kernel
theorem ps_d_find_19 : decode ps_c_find 19 = .ok (.getfield 15, 3) := by decide +kernel
theorem ps_d_find_22 : decode ps_c_find 22 = .ok (.ishl, 1) := by decide +kernel
theorem ps_d_find_23 : decode ps_c_find 23 = .ok (.ior, 1) := by decide +kernel
theorem ps_d_find_24 : decode ps_c_find 24 = .ok (.istore 4, 2) := by decide +kernel
theorem ps_d_find_26 : decode ps_c_find 26 = .ok (.iconst 0, 1) := by decide +kernel
theorem ps_d_find_27 : decode ps_c_find 27 = .ok (.istore 5, 2) := by decide +kernel
theorem ps_d_find_29 : decode ps_c_find 29 = .ok (.iload 5, 2) := by decide +kernel
theorem ps_d_find_31 : decode ps_c_find 31 = .ok (.aload_n 0, 1) := by decide +kernel
theorem ps_d_find_32 : decode ps_c_find 32 = .ok (.getfield 26, 3) := by decide +kernel
theorem ps_d_find_35 : decode ps_c_find 35 = .ok (.arraylength, 1) := by decide +kernel
theorem ps_d_find_36 : decode ps_c_find 36 = .ok (.if_icmp .ge 59, 3) := by decide +kernel
theorem ps_d_find_39 : decode ps_c_find 39 = .ok (.iload 5, 2) := by decide +kernel
theorem ps_d_find_41 : decode ps_c_find 41 = .ok (.aload_n 0, 1) := by decide +kernel
theorem ps_d_find_42 : decode ps_c_find 42 = .ok (.getfield 41, 3) := by decide +kernel
theorem ps_d_find_45 : decode ps_c_find 45 = .ok (.if_icmp .ge 50, 3) := by decide +kernel
theorem ps_d_find_48 : decode ps_c_find 48 = .ok (.aload_n 0, 1) := by decide +kernel
theorem ps_d_find_49 : decode ps_c_find 49 = .ok (.iload 5, 2) := by decide +kernel
theorem ps_d_find_51 : decode ps_c_find 51 = .ok (.invokevirtual 44, 3) := by decide +kernel
theorem ps_d_find_54 : decode ps_c_find 54 = .ok (.iload 4, 2) := by decide +kernel
theorem ps_d_find_56 : decode ps_c_find 56 = .ok (.iand, 1) := by decide +kernel
theorem ps_d_find_57 : decode ps_c_find 57 = .ok (.iload_n 3, 1) := by decide +kernel
theorem ps_d_find_58 : decode ps_c_find 58 = .ok (.if_icmp .ne 6, 3) := by decide +kernel
theorem ps_d_find_61 : decode ps_c_find 61 = .ok (.iload 5, 2) := by decide +kernel
theorem ps_d_find_63 : decode ps_c_find 63 = .ok (.ireturn, 1) := by decide +kernel
theorem ps_d_find_64 : decode ps_c_find 64 = .ok (.iload 5, 2) := by decide +kernel
theorem ps_d_find_66 : decode ps_c_find 66 = .ok (.aload_n 0, 1) := by decide +kernel
theorem ps_d_find_67 : decode ps_c_find 67 = .ok (.getfield 48, 3) := by decide +kernel
theorem ps_d_find_70 : decode ps_c_find 70 = .ok (.if_icmp .ne 19, 3) := by decide +kernel
theorem ps_d_find_73 : decode ps_c_find 73 = .ok (.aload_n 0, 1) := by decide +kernel
theorem ps_d_find_74 : decode ps_c_find 74 = .ok (.iload 5, 2) := by decide +kernel
theorem ps_d_find_76 : decode ps_c_find 76 = .ok (.invokevirtual 51, 3) := by decide +kernel
theorem ps_d_find_79 : decode ps_c_find 79 = .ok (.aload_n 0, 1) := by decide +kernel
theorem ps_d_find_80 : decode ps_c_find 80 = .ok (.dup, 1) := by decide +kernel
theorem ps_d_find_81 : decode ps_c_find 81 = .ok (.getfield 48, 3) := by decide +kernel
theorem ps_d_find_84 : decode ps_c_find 84 = .ok (.iconst 1, 1) := by decide +kernel
theorem ps_d_find_85 : decode ps_c_find 85 = .ok (.iadd, 1) := by decide +kernel
theorem ps_d_find_86 : decode ps_c_find 86 = .ok (.putfield 48, 3) := by decide +kernel
theorem ps_d_find_89 : decode ps_c_find 89 = .ok (.iinc 5 1, 3) := by decide +kernel
theorem ps_d_find_92 : decode ps_c_find 92 = .ok (.goto (-63), 3) := by decide +kernel
theorem ps_d_find_95 : decode ps_c_find 95 = .ok (.iconst (-1), 1) := by decide +kernel
theorem ps_d_find_96 : decode ps_c_find 96 = .ok (.ireturn, 1) := by decide +kernel
theorem ps_d_answer_0 : decode ps_c_answer 0 = .ok (.iload_n 1, 1) := by decide +kernel
theorem ps_d_answer_1 : decode ps_c_answer 1 = .ok (.ifCond .lt 11, 3) := by decide +kernel
theorem ps_d_answer_4 : decode ps_c_answer 4 = .ok (.iload_n 1, 1) := by decide +kernel
theorem ps_d_answer_5 : decode ps_c_answer 5 = .ok (.aload_n 0, 1) := by decide +kernel
theorem ps_d_answer_6 : decode ps_c_answer 6 = .ok (.getfield 41, 3) := by decide +kernel
theorem ps_d_answer_9 : decode ps_c_answer 9 = .ok (.if_icmp .lt 5, 3) := by decide +kernel
theorem ps_d_answer_12 : decode ps_c_answer 12 = .ok (.iconst (-1), 1) := by decide +kernel
theorem ps_d_answer_13 : decode ps_c_answer 13 = .ok (.ireturn, 1) := by decide +kernel
theorem ps_d_answer_14 : decode ps_c_answer 14 = .ok (.aload_n 0, 1) := by decide +kernel
theorem ps_d_answer_15 : decode ps_c_answer 15 = .ok (.iload_n 1, 1) := by decide +kernel
theorem ps_d_answer_16 : decode ps_c_answer 16 = .ok (.invokevirtual 55, 3) := by decide +kernel
theorem ps_d_answer_19 : decode ps_c_answer 19 = .ok (.istore_n 3, 1) := by decide +kernel
theorem ps_d_answer_20 : decode ps_c_answer 20 = .ok (.iload_n 2, 1) := by decide +kernel
theorem ps_d_answer_21 : decode ps_c_answer 21 = .ok (.iconst (-1), 1) := by decide +kernel
theorem ps_d_answer_22 : decode ps_c_answer 22 = .ok (.if_icmp .ne 5, 3) := by decide +kernel
theorem ps_d_answer_25 : decode ps_c_answer 25 = .ok (.iload_n 3, 1) := by decide +kernel
theorem ps_d_answer_26 : decode ps_c_answer 26 = .ok (.ireturn, 1) := by decide +kernel
theorem ps_d_answer_27 : decode ps_c_answer 27 = .ok (.iload_n 2, 1) := by decide +kernel
theorem ps_d_answer_28 : decode ps_c_answer 28 = .ok (.ifCond .lt 8, 3) := by decide +kernel
theorem ps_d_answer_31 : decode ps_c_answer 31 = .ok (.iload_n 2, 1) := by decide +kernel
theorem ps_d_answer_32 : decode ps_c_answer 32 = .ok (.iload_n 3, 1) := by decide +kernel
theorem ps_d_answer_33 : decode ps_c_answer 33 = .ok (.if_icmp .lt 5, 3) := by decide +kernel
theorem ps_d_answer_36 : decode ps_c_answer 36 = .ok (.iconst (-1), 1) := by decide +kernel
theorem ps_d_answer_37 : decode ps_c_answer 37 = .ok (.ireturn, 1) := by decide +kernel
theorem ps_d_answer_38 : decode ps_c_answer 38 = .ok (.iload_n 1, 1) := by decide +kernel
theorem ps_d_answer_39 : decode ps_c_answer 39 = .ok (.istore 4, 2) := by decide +kernel
theorem ps_d_answer_41 : decode ps_c_answer 41 = .ok (.iload_n 3, 1) := by decide +kernel
theorem ps_d_answer_42 : decode ps_c_answer 42 = .ok (.iconst 1, 1) := by decide +kernel
theorem ps_d_answer_43 : decode ps_c_answer 43 = .ok (.isub, 1) := by decide +kernel
theorem ps_d_answer_44 : decode ps_c_answer 44 = .ok (.istore 5, 2) := by decide +kernel
theorem ps_d_answer_46 : decode ps_c_answer 46 = .ok (.iload 5, 2) := by decide +kernel
theorem ps_d_answer_48 : decode ps_c_answer 48 = .ok (.iload_n 2, 1) := by decide +kernel
theorem ps_d_answer_49 : decode ps_c_answer 49 = .ok (.if_icmp .le 17, 3) := by decide +kernel
theorem ps_d_answer_52 : decode ps_c_answer 52 = .ok (.aload_n 0, 1) := by decide +kernel
theorem ps_d_answer_53 : decode ps_c_answer 53 = .ok (.iload 4, 2) := by decide +kernel
theorem ps_d_answer_55 : decode ps_c_answer 55 = .ok (.invokevirtual 58, 3) := by decide +kernel
theorem ps_d_answer_58 : decode ps_c_answer 58 = .ok (.istore 4, 2) := by decide +kernel
theorem ps_d_answer_60 : decode ps_c_answer 60 = .ok (.iinc 5 (-1), 3) := by decide +kernel
theorem ps_d_answer_63 : decode ps_c_answer 63 = .ok (.goto (-17), 3) := by decide +kernel
theorem ps_d_answer_66 : decode ps_c_answer 66 = .ok (.aload_n 0, 1) := by decide +kernel
theorem ps_d_answer_67 : decode ps_c_answer 67 = .ok (.getfield 26, 3) := by decide +kernel
theorem ps_d_answer_70 : decode ps_c_answer 70 = .ok (.iload 4, 2) := by decide +kernel
theorem ps_d_answer_72 : decode ps_c_answer 72 = .ok (.laload, 1) := by decide +kernel
theorem ps_d_answer_73 : decode ps_c_answer 73 = .ok (.l2i, 1) := by decide +kernel
theorem ps_d_answer_74 : decode ps_c_answer 74 = .ok (.bipush 15, 2) := by decide +kernel
theorem ps_d_answer_76 : decode ps_c_answer 76 = .ok (.iand, 1) := by decide +kernel
theorem ps_d_answer_77 : decode ps_c_answer 77 = .ok (.ireturn, 1) := by decide +kernel
theorem ps_d_lengthTo_0 : decode ps_c_lengthTo 0 = .ok (.iconst 0, 1) := by decide +kernel
theorem ps_d_lengthTo_1 : decode ps_c_lengthTo 1 = .ok (.istore_n 2, 1) := by decide +kernel
theorem ps_d_lengthTo_2 : decode ps_c_lengthTo 2 = .ok (.iload_n 1, 1) := by decide +kernel
theorem ps_d_lengthTo_3 : decode ps_c_lengthTo 3 = .ok (.istore_n 3, 1) := by decide +kernel
theorem ps_d_lengthTo_4 : decode ps_c_lengthTo 4 = .ok (.iload_n 3, 1) := by decide +kernel
theorem ps_d_lengthTo_5 : decode ps_c_lengthTo 5 = .ok (.ifCond .le 24, 3) := by decide +kernel
theorem ps_d_lengthTo_8 : decode ps_c_lengthTo 8 = .ok (.iload_n 2, 1) := by decide +kernel
theorem ps_d_lengthTo_9 : decode ps_c_lengthTo 9 = .ok (.aload_n 0, 1) := by decide +kernel
theorem ps_d_lengthTo_10 : decode ps_c_lengthTo 10 = .ok (.getfield 26, 3) := by decide +kernel
theorem ps_d_lengthTo_13 : decode ps_c_lengthTo 13 = .ok (.arraylength, 1) := by decide +kernel
theorem ps_d_lengthTo_14 : decode ps_c_lengthTo 14 = .ok (.if_icmp .ge 15, 3) := by decide +kernel
theorem ps_d_lengthTo_17 : decode ps_c_lengthTo 17 = .ok (.aload_n 0, 1) := by decide +kernel
theorem ps_d_lengthTo_18 : decode ps_c_lengthTo 18 = .ok (.iload_n 3, 1) := by decide +kernel
theorem ps_d_lengthTo_19 : decode ps_c_lengthTo 19 = .ok (.invokevirtual 58, 3) := by decide +kernel
theorem ps_d_lengthTo_22 : decode ps_c_lengthTo 22 = .ok (.istore_n 3, 1) := by decide +kernel
theorem ps_d_lengthTo_23 : decode ps_c_lengthTo 23 = .ok (.iinc 2 1, 3) := by decide +kernel
theorem ps_d_lengthTo_26 : decode ps_c_lengthTo 26 = .ok (.goto (-22), 3) := by decide +kernel
theorem ps_d_lengthTo_29 : decode ps_c_lengthTo 29 = .ok (.iload_n 2, 1) := by decide +kernel
theorem ps_d_lengthTo_30 : decode ps_c_lengthTo 30 = .ok (.ireturn, 1) := by decide +kernel
theorem ps_d_spreadFrom_0 : decode ps_c_spreadFrom 0 = .ok (.aload_n 0, 1) := by decide +kernel
theorem ps_d_spreadFrom_1 : decode ps_c_spreadFrom 1 = .ok (.iload_n 1, 1) := by decide +kernel
theorem ps_d_spreadFrom_2 : decode ps_c_spreadFrom 2 = .ok (.invokevirtual 44, 3) := by decide +kernel
theorem ps_d_spreadFrom_5 : decode ps_c_spreadFrom 5 = .ok (.istore_n 2, 1) := by decide +kernel
theorem ps_d_spreadFrom_6 : decode ps_c_spreadFrom 6 = .ok (.iconst 0, 1) := by decide +kernel
theorem ps_d_spreadFrom_7 : decode ps_c_spreadFrom 7 = .ok (.istore_n 3, 1) := by decide +kernel
theorem ps_d_spreadFrom_8 : decode ps_c_spreadFrom 8 = .ok (.iload_n 3, 1) := by decide +kernel
theorem ps_d_spreadFrom_9 : decode ps_c_spreadFrom 9 = .ok (.aload_n 0, 1) := by decide +kernel
theorem ps_d_spreadFrom_10 : decode ps_c_spreadFrom 10 = .ok (.getfield 9, 3) := by decide +kernel
theorem ps_d_spreadFrom_13 : decode ps_c_spreadFrom 13 = .ok (.if_icmp .ge 61, 3) := by decide +kernel
theorem ps_d_spreadFrom_16 : decode ps_c_spreadFrom 16 = .ok (.iconst 0, 1) := by decide +kernel
theorem ps_d_spreadFrom_17 : decode ps_c_spreadFrom 17 = .ok (.istore 4, 2) := by decide +kernel
theorem ps_d_spreadFrom_19 : decode ps_c_spreadFrom 19 = .ok (.iload 4, 2) := by decide +kernel
theorem ps_d_spreadFrom_21 : decode ps_c_spreadFrom 21 = .ok (.aload_n 0, 1) := by decide +kernel
theorem ps_d_spreadFrom_22 : decode ps_c_spreadFrom 22 = .ok (.getfield 9, 3) := by decide +kernel
theorem ps_d_spreadFrom_25 : decode ps_c_spreadFrom 25 = .ok (.if_icmp .ge 43, 3) := by decide +kernel
theorem ps_d_spreadFrom_28 : decode ps_c_spreadFrom 28 = .ok (.iload_n 3, 1) := by decide +kernel
theorem ps_d_spreadFrom_29 : decode ps_c_spreadFrom 29 = .ok (.iload 4, 2) := by decide +kernel
theorem ps_d_spreadFrom_31 : decode ps_c_spreadFrom 31 = .ok (.if_icmp .eq 31, 3) := by decide +kernel
theorem ps_d_spreadFrom_34 : decode ps_c_spreadFrom 34 = .ok (.aload_n 0, 1) := by decide +kernel
theorem ps_d_spreadFrom_35 : decode ps_c_spreadFrom 35 = .ok (.iload_n 2, 1) := by decide +kernel
theorem ps_d_spreadFrom_36 : decode ps_c_spreadFrom 36 = .ok (.iload 4, 2) := by decide +kernel
theorem ps_d_spreadFrom_38 : decode ps_c_spreadFrom 38 = .ok (.aload_n 0, 1) := by decide +kernel
theorem ps_d_spreadFrom_39 : decode ps_c_spreadFrom 39 = .ok (.iload_n 2, 1) := by decide +kernel
theorem ps_d_spreadFrom_40 : decode ps_c_spreadFrom 40 = .ok (.iload_n 3, 1) := by decide +kernel
theorem ps_d_spreadFrom_41 : decode ps_c_spreadFrom 41 = .ok (.invokevirtual 61, 3) := by decide +kernel
theorem ps_d_spreadFrom_44 : decode ps_c_spreadFrom 44 = .ok (.invokevirtual 33, 3) := by decide +kernel
theorem ps_d_spreadFrom_47 : decode ps_c_spreadFrom 47 = .ok (.istore 5, 2) := by decide +kernel
theorem ps_d_spreadFrom_49 : decode ps_c_spreadFrom 49 = .ok (.aload_n 0, 1) := by decide +kernel
theorem ps_d_spreadFrom_50 : decode ps_c_spreadFrom 50 = .ok (.iload 5, 2) := by decide +kernel
theorem ps_d_spreadFrom_52 : decode ps_c_spreadFrom 52 = .ok (.iload_n 1, 1) := by decide +kernel
theorem ps_d_spreadFrom_53 : decode ps_c_spreadFrom 53 = .ok (.iconst 4, 1) := by decide +kernel
theorem ps_d_spreadFrom_54 : decode ps_c_spreadFrom 54 = .ok (.iload_n 3, 1) := by decide +kernel
theorem ps_d_spreadFrom_55 : decode ps_c_spreadFrom 55 = .ok (.imul, 1) := by decide +kernel
theorem ps_d_spreadFrom_56 : decode ps_c_spreadFrom 56 = .ok (.iload 4, 2) := by decide +kernel
theorem ps_d_spreadFrom_58 : decode ps_c_spreadFrom 58 = .ok (.iadd, 1) := by decide +kernel
theorem ps_d_spreadFrom_59 : decode ps_c_spreadFrom 59 = .ok (.invokevirtual 37, 3) := by decide +kernel
theorem ps_d_spreadFrom_62 : decode ps_c_spreadFrom 62 = .ok (.iinc 4 1, 3) := by decide +kernel
theorem ps_d_spreadFrom_65 : decode ps_c_spreadFrom 65 = .ok (.goto (-46), 3) := by decide +kernel
theorem ps_d_spreadFrom_68 : decode ps_c_spreadFrom 68 = .ok (.iinc 3 1, 3) := by decide +kernel
theorem ps_d_spreadFrom_71 : decode ps_c_spreadFrom 71 = .ok (.goto (-63), 3) := by decide +kernel
theorem ps_d_spreadFrom_74 : decode ps_c_spreadFrom 74 = .ok (.return_, 1) := by decide +kernel
theorem ps_d_parityOf_0 : decode ps_c_parityOf 0 = .ok (.iload_n 1, 1) := by decide +kernel
theorem ps_d_parityOf_1 : decode ps_c_parityOf 1 = .ok (.iload_n 2, 1) := by decide +kernel
theorem ps_d_parityOf_2 : decode ps_c_parityOf 2 = .ok (.aload_n 0, 1) := by decide +kernel
theorem ps_d_parityOf_3 : decode ps_c_parityOf 3 = .ok (.getfield 9, 3) := by decide +kernel
theorem ps_d_parityOf_6 : decode ps_c_parityOf 6 = .ok (.imul, 1) := by decide +kernel
theorem ps_d_parityOf_7 : decode ps_c_parityOf 7 = .ok (.ishr, 1) := by decide +kernel
theorem ps_d_parityOf_8 : decode ps_c_parityOf 8 = .ok (.iconst 1, 1) := by decide +kernel
theorem ps_d_parityOf_9 : decode ps_c_parityOf 9 = .ok (.aload_n 0, 1) := by decide +kernel
theorem ps_d_parityOf_10 : decode ps_c_parityOf 10 = .ok (.getfield 9, 3) := by decide +kernel
theorem ps_d_parityOf_13 : decode ps_c_parityOf 13 = .ok (.ishl, 1) := by decide +kernel
theorem ps_d_parityOf_14 : decode ps_c_parityOf 14 = .ok (.iconst 1, 1) := by decide +kernel
theorem ps_d_parityOf_15 : decode ps_c_parityOf 15 = .ok (.isub, 1) := by decide +kernel
theorem ps_d_parityOf_16 : decode ps_c_parityOf 16 = .ok (.iand, 1) := by decide +kernel
theorem ps_d_parityOf_17 : decode ps_c_parityOf 17 = .ok (.ireturn, 1) := by decide +kernel
theorem ps_d_withParity_0 : decode ps_c_withParity 0 = .ok (.iload_n 1, 1) := by decide +kernel
theorem ps_d_withParity_1 : decode ps_c_withParity 1 = .ok (.iload_n 3, 1) := by decide +kernel
theorem ps_d_withParity_2 : decode ps_c_withParity 2 = .ok (.iload_n 2, 1) := by decide +kernel
theorem ps_d_withParity_3 : decode ps_c_withParity 3 = .ok (.aload_n 0, 1) := by decide +kernel
theorem ps_d_withParity_4 : decode ps_c_withParity 4 = .ok (.getfield 9, 3) := by decide +kernel
theorem ps_d_withParity_7 : decode ps_c_withParity 7 = .ok (.imul, 1) := by decide +kernel
theorem ps_d_withParity_8 : decode ps_c_withParity 8 = .ok (.ishl, 1) := by decide +kernel
theorem ps_d_withParity_9 : decode ps_c_withParity 9 = .ok (.ixor, 1) := by decide +kernel
theorem ps_d_withParity_10 : decode ps_c_withParity 10 = .ok (.istore 4, 2) := by decide +kernel
theorem ps_d_withParity_12 : decode ps_c_withParity 12 = .ok (.aload_n 0, 1) := by decide +kernel
theorem ps_d_withParity_13 : decode ps_c_withParity 13 = .ok (.getfield 18, 3) := by decide +kernel
theorem ps_d_withParity_16 : decode ps_c_withParity 16 = .ok (.ifCond .eq 24, 3) := by decide +kernel
theorem ps_d_withParity_19 : decode ps_c_withParity 19 = .ok (.iload 4, 2) := by decide +kernel
theorem ps_d_withParity_21 : decode ps_c_withParity 21 = .ok (.iconst 1, 1) := by decide +kernel
theorem ps_d_withParity_22 : decode ps_c_withParity 22 = .ok (.aload_n 0, 1) := by decide +kernel
theorem ps_d_withParity_23 : decode ps_c_withParity 23 = .ok (.getfield 15, 3) := by decide +kernel
theorem ps_d_withParity_26 : decode ps_c_withParity 26 = .ok (.aload_n 0, 1) := by decide +kernel
theorem ps_d_withParity_27 : decode ps_c_withParity 27 = .ok (.iload 4, 2) := by decide +kernel
theorem ps_d_withParity_29 : decode ps_c_withParity 29 = .ok (.iload_n 2, 1) := by decide +kernel
theorem ps_d_withParity_30 : decode ps_c_withParity 30 = .ok (.invokevirtual 61, 3) := by decide +kernel
theorem ps_d_withParity_33 : decode ps_c_withParity 33 = .ok (.iadd, 1) := by decide +kernel
theorem ps_d_withParity_34 : decode ps_c_withParity 34 = .ok (.iconst 1, 1) := by decide +kernel
theorem ps_d_withParity_35 : decode ps_c_withParity 35 = .ok (.isub, 1) := by decide +kernel
theorem ps_d_withParity_36 : decode ps_c_withParity 36 = .ok (.ishl, 1) := by decide +kernel
theorem ps_d_withParity_37 : decode ps_c_withParity 37 = .ok (.ior, 1) := by decide +kernel
theorem ps_d_withParity_38 : decode ps_c_withParity 38 = .ok (.istore 4, 2) := by decide +kernel
theorem ps_d_withParity_40 : decode ps_c_withParity 40 = .ok (.iload 4, 2) := by decide +kernel
theorem ps_d_withParity_42 : decode ps_c_withParity 42 = .ok (.ireturn, 1) := by decide +kernel
theorem ps_d_meet_0 : decode ps_c_meet 0 = .ok (.iload_n 1, 1) := by decide +kernel
theorem ps_d_meet_1 : decode ps_c_meet 1 = .ok (.iconst 5, 1) := by decide +kernel
theorem ps_d_meet_2 : decode ps_c_meet 2 = .ok (.ishr, 1) := by decide +kernel
theorem ps_d_meet_3 : decode ps_c_meet 3 = .ok (.istore 4, 2) := by decide +kernel
theorem ps_d_meet_5 : decode ps_c_meet 5 = .ok (.iconst 1, 1) := by decide +kernel
theorem ps_d_meet_6 : decode ps_c_meet 6 = .ok (.iload_n 1, 1) := by decide +kernel
theorem ps_d_meet_7 : decode ps_c_meet 7 = .ok (.ishl, 1) := by decide +kernel
theorem ps_d_meet_8 : decode ps_c_meet 8 = .ok (.istore 5, 2) := by decide +kernel
theorem ps_d_meet_10 : decode ps_c_meet 10 = .ok (.aload_n 0, 1) := by decide +kernel
theorem ps_d_meet_11 : decode ps_c_meet 11 = .ok (.getfield 30, 3) := by decide +kernel
theorem ps_d_meet_14 : decode ps_c_meet 14 = .ok (.iload 4, 2) := by decide +kernel
theorem ps_d_meet_16 : decode ps_c_meet 16 = .ok (.iaload, 1) := by decide +kernel
theorem ps_d_meet_17 : decode ps_c_meet 17 = .ok (.iload 5, 2) := by decide +kernel
theorem ps_d_meet_19 : decode ps_c_meet 19 = .ok (.iand, 1) := by decide +kernel
theorem ps_d_meet_20 : decode ps_c_meet 20 = .ok (.ifCond .ne 59, 3) := by decide +kernel
theorem ps_d_meet_23 : decode ps_c_meet 23 = .ok (.aload_n 0, 1) := by decide +kernel
theorem ps_d_meet_24 : decode ps_c_meet 24 = .ok (.getfield 41, 3) := by decide +kernel
theorem ps_d_meet_27 : decode ps_c_meet 27 = .ok (.aload_n 0, 1) := by decide +kernel
theorem ps_d_meet_28 : decode ps_c_meet 28 = .ok (.getfield 26, 3) := by decide +kernel
theorem ps_d_meet_31 : decode ps_c_meet 31 = .ok (.arraylength, 1) := by decide +kernel
theorem ps_d_meet_32 : decode ps_c_meet 32 = .ok (.if_icmp .ge 47, 3) := by decide +kernel
theorem ps_d_meet_35 : decode ps_c_meet 35 = .ok (.aload_n 0, 1) := by decide +kernel
theorem ps_d_meet_36 : decode ps_c_meet 36 = .ok (.getfield 30, 3) := by decide +kernel
theorem ps_d_meet_39 : decode ps_c_meet 39 = .ok (.iload 4, 2) := by decide +kernel
theorem ps_d_meet_41 : decode ps_c_meet 41 = .ok (.dup2, 1) := by decide +kernel
theorem ps_d_meet_42 : decode ps_c_meet 42 = .ok (.iaload, 1) := by decide +kernel
theorem ps_d_meet_43 : decode ps_c_meet 43 = .ok (.iload 5, 2) := by decide +kernel
theorem ps_d_meet_45 : decode ps_c_meet 45 = .ok (.ior, 1) := by decide +kernel
theorem ps_d_meet_46 : decode ps_c_meet 46 = .ok (.iastore, 1) := by decide +kernel
theorem ps_d_meet_47 : decode ps_c_meet 47 = .ok (.aload_n 0, 1) := by decide +kernel
theorem ps_d_meet_48 : decode ps_c_meet 48 = .ok (.getfield 26, 3) := by decide +kernel
theorem ps_d_meet_51 : decode ps_c_meet 51 = .ok (.aload_n 0, 1) := by decide +kernel
theorem ps_d_meet_52 : decode ps_c_meet 52 = .ok (.getfield 41, 3) := by decide +kernel
theorem ps_d_meet_55 : decode ps_c_meet 55 = .ok (.iload_n 1, 1) := by decide +kernel
theorem ps_d_meet_56 : decode ps_c_meet 56 = .ok (.i2l, 1) := by decide +kernel
theorem ps_d_meet_57 : decode ps_c_meet 57 = .ok (.bipush 20, 2) := by decide +kernel
theorem ps_d_meet_59 : decode ps_c_meet 59 = .ok (.lshl, 1) := by decide +kernel
theorem ps_d_meet_60 : decode ps_c_meet 60 = .ok (.iload_n 2, 1) := by decide +kernel
theorem ps_d_meet_61 : decode ps_c_meet 61 = .ok (.iconst 4, 1) := by decide +kernel
theorem ps_d_meet_62 : decode ps_c_meet 62 = .ok (.ishl, 1) := by decide +kernel
theorem ps_d_meet_63 : decode ps_c_meet 63 = .ok (.i2l, 1) := by decide +kernel
theorem ps_d_meet_64 : decode ps_c_meet 64 = .ok (.lor, 1) := by decide +kernel
theorem ps_d_meet_65 : decode ps_c_meet 65 = .ok (.iload_n 3, 1) := by decide +kernel
theorem ps_d_meet_66 : decode ps_c_meet 66 = .ok (.i2l, 1) := by decide +kernel
theorem ps_d_meet_67 : decode ps_c_meet 67 = .ok (.lor, 1) := by decide +kernel
theorem ps_d_meet_68 : decode ps_c_meet 68 = .ok (.lastore, 1) := by decide +kernel
theorem ps_d_meet_69 : decode ps_c_meet 69 = .ok (.aload_n 0, 1) := by decide +kernel
theorem ps_d_meet_70 : decode ps_c_meet 70 = .ok (.dup, 1) := by decide +kernel
theorem ps_d_meet_71 : decode ps_c_meet 71 = .ok (.getfield 41, 3) := by decide +kernel
theorem ps_d_meet_74 : decode ps_c_meet 74 = .ok (.iconst 1, 1) := by decide +kernel
theorem ps_d_meet_75 : decode ps_c_meet 75 = .ok (.iadd, 1) := by decide +kernel
theorem ps_d_meet_76 : decode ps_c_meet 76 = .ok (.putfield 41, 3) := by decide +kernel
theorem ps_d_meet_79 : decode ps_c_meet 79 = .ok (.return_, 1) := by decide +kernel
theorem ps_d_stateAt_0 : decode ps_c_stateAt 0 = .ok (.aload_n 0, 1) := by decide +kernel
theorem ps_d_stateAt_1 : decode ps_c_stateAt 1 = .ok (.getfield 26, 3) := by decide +kernel
theorem ps_d_stateAt_4 : decode ps_c_stateAt 4 = .ok (.iload_n 1, 1) := by decide +kernel
theorem ps_d_stateAt_5 : decode ps_c_stateAt 5 = .ok (.laload, 1) := by decide +kernel
theorem ps_d_stateAt_6 : decode ps_c_stateAt 6 = .ok (.bipush 20, 2) := by decide +kernel
theorem ps_d_stateAt_8 : decode ps_c_stateAt 8 = .ok (.lshr, 1) := by decide +kernel
theorem ps_d_stateAt_9 : decode ps_c_stateAt 9 = .ok (.l2i, 1) := by decide +kernel
theorem ps_d_stateAt_10 : decode ps_c_stateAt 10 = .ok (.ireturn, 1) := by decide +kernel
theorem ps_d_fromAt_0 : decode ps_c_fromAt 0 = .ok (.aload_n 0, 1) := by decide +kernel
theorem ps_d_fromAt_1 : decode ps_c_fromAt 1 = .ok (.getfield 26, 3) := by decide +kernel
theorem ps_d_fromAt_4 : decode ps_c_fromAt 4 = .ok (.iload_n 1, 1) := by decide +kernel
theorem ps_d_fromAt_5 : decode ps_c_fromAt 5 = .ok (.laload, 1) := by decide +kernel
theorem ps_d_fromAt_6 : decode ps_c_fromAt 6 = .ok (.iconst 4, 1) := by decide +kernel
theorem ps_d_fromAt_7 : decode ps_c_fromAt 7 = .ok (.lshr, 1) := by decide +kernel
theorem ps_d_fromAt_8 : decode ps_c_fromAt 8 = .ok (.l2i, 1) := by decide +kernel
theorem ps_d_fromAt_9 : decode ps_c_fromAt 9 = .ok (.ldc 65, 2) := by decide +kernel
theorem ps_d_fromAt_11 : decode ps_c_fromAt 11 = .ok (.iand, 1) := by decide +kernel
theorem ps_d_fromAt_12 : decode ps_c_fromAt 12 = .ok (.ireturn, 1) := by decide +kernel
