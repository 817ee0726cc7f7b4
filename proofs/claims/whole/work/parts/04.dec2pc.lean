theorem pc_d_init_0 : decode pc_c_init 0 = .ok (.aload_n 0, 1) := by decide +kernel
theorem pc_d_init_1 : decode pc_c_init 1 = .ok (.invokespecial 1, 3) := by decide +kernel
theorem pc_d_init_4 : decode pc_c_init 4 = .ok (.aload_n 0, 1) := by decide +kernel
theorem pc_d_init_5 : decode pc_c_init 5 = .ok (.iconst 4, 1) := by decide +kernel
theorem pc_d_init_6 : decode pc_c_init 6 = .ok (.newarray .int, 2) := by decide +kernel
theorem pc_d_init_8 : decode pc_c_init 8 = .ok (.putfield 9, 3) := by decide +kernel
theorem pc_d_init_11 : decode pc_c_init 11 = .ok (.aload_n 0, 1) := by decide +kernel
theorem pc_d_init_12 : decode pc_c_init 12 = .ok (.bipush 16, 2) := by decide +kernel
theorem pc_d_init_14 : decode pc_c_init 14 = .ok (.newarray .int, 2) := by decide +kernel
theorem pc_d_init_16 : decode pc_c_init 16 = .ok (.putfield 13, 3) := by decide +kernel
theorem pc_d_init_19 : decode pc_c_init 19 = .ok (.aload_n 0, 1) := by decide +kernel
theorem pc_d_init_20 : decode pc_c_init 20 = .ok (.new 16, 3) := by decide +kernel
theorem pc_d_init_23 : decode pc_c_init 23 = .ok (.dup, 1) := by decide +kernel
theorem pc_d_init_24 : decode pc_c_init 24 = .ok (.invokespecial 18, 3) := by decide +kernel
theorem pc_d_init_27 : decode pc_c_init 27 = .ok (.putfield 19, 3) := by decide +kernel
theorem pc_d_init_30 : decode pc_c_init 30 = .ok (.aload_n 0, 1) := by decide +kernel
theorem pc_d_init_31 : decode pc_c_init 31 = .ok (.iconst 5, 1) := by decide +kernel
theorem pc_d_init_32 : decode pc_c_init 32 = .ok (.anewarray 23, 3) := by decide +kernel
theorem pc_d_init_35 : decode pc_c_init 35 = .ok (.putfield 25, 3) := by decide +kernel
theorem pc_d_init_38 : decode pc_c_init 38 = .ok (.aload_n 0, 1) := by decide +kernel
theorem pc_d_init_39 : decode pc_c_init 39 = .ok (.iconst 1, 1) := by decide +kernel
theorem pc_d_init_40 : decode pc_c_init 40 = .ok (.invokevirtual 29, 3) := by decide +kernel
theorem pc_d_init_43 : decode pc_c_init 43 = .ok (.return_, 1) := by decide +kernel
theorem pc_d_begin_0 : decode pc_c_begin 0 = .ok (.iload_n 1, 1) := by decide +kernel
theorem pc_d_begin_1 : decode pc_c_begin 1 = .ok (.iconst 1, 1) := by decide +kernel
theorem pc_d_begin_2 : decode pc_c_begin 2 = .ok (.if_icmp .lt 8, 3) := by decide +kernel
theorem pc_d_begin_5 : decode pc_c_begin 5 = .ok (.iload_n 1, 1) := by decide +kernel
theorem pc_d_begin_6 : decode pc_c_begin 6 = .ok (.iconst 4, 1) := by decide +kernel
theorem pc_d_begin_7 : decode pc_c_begin 7 = .ok (.if_icmp .le 5, 3) := by decide +kernel
theorem pc_d_begin_10 : decode pc_c_begin 10 = .ok (.iconst 0, 1) := by decide +kernel
theorem pc_d_begin_11 : decode pc_c_begin 11 = .ok (.ireturn, 1) := by decide +kernel
theorem pc_d_begin_12 : decode pc_c_begin 12 = .ok (.aload_n 0, 1) := by decide +kernel
theorem pc_d_begin_13 : decode pc_c_begin 13 = .ok (.iload_n 1, 1) := by decide +kernel
theorem pc_d_begin_14 : decode pc_c_begin 14 = .ok (.invokevirtual 29, 3) := by decide +kernel
theorem pc_d_begin_17 : decode pc_c_begin 17 = .ok (.iconst 1, 1) := by decide +kernel
theorem pc_d_begin_18 : decode pc_c_begin 18 = .ok (.ireturn, 1) := by decide +kernel
theorem pc_d_join_0 : decode pc_c_join 0 = .ok (.aload_n 0, 1) := by decide +kernel
theorem pc_d_join_1 : decode pc_c_join 1 = .ok (.iload_n 1, 1) := by decide +kernel
theorem pc_d_join_2 : decode pc_c_join 2 = .ok (.iload_n 2, 1) := by decide +kernel
theorem pc_d_join_3 : decode pc_c_join 3 = .ok (.invokevirtual 33, 3) := by decide +kernel
theorem pc_d_join_6 : decode pc_c_join 6 = .ok (.ifCond .ne 5, 3) := by decide +kernel
theorem pc_d_join_9 : decode pc_c_join 9 = .ok (.iconst 0, 1) := by decide +kernel
theorem pc_d_join_10 : decode pc_c_join 10 = .ok (.ireturn, 1) := by decide +kernel
theorem pc_d_join_11 : decode pc_c_join 11 = .ok (.aload_n 0, 1) := by decide +kernel
theorem pc_d_join_12 : decode pc_c_join 12 = .ok (.getfield 9, 3) := by decide +kernel
theorem pc_d_join_15 : decode pc_c_join 15 = .ok (.iload_n 2, 1) := by decide +kernel
theorem pc_d_join_16 : decode pc_c_join 16 = .ok (.dup2, 1) := by decide +kernel
theorem pc_d_join_17 : decode pc_c_join 17 = .ok (.iaload, 1) := by decide +kernel
theorem pc_d_join_18 : decode pc_c_join 18 = .ok (.aload_n 0, 1) := by decide +kernel
theorem pc_d_join_19 : decode pc_c_join 19 = .ok (.getfield 9, 3) := by decide +kernel
theorem pc_d_join_22 : decode pc_c_join 22 = .ok (.iload_n 1, 1) := by decide +kernel
theorem pc_d_join_23 : decode pc_c_join 23 = .ok (.iaload, 1) := by decide +kernel
theorem pc_d_join_24 : decode pc_c_join 24 = .ok (.ixor, 1) := by decide +kernel
theorem pc_d_join_25 : decode pc_c_join 25 = .ok (.iastore, 1) := by decide +kernel
theorem pc_d_join_26 : decode pc_c_join 26 = .ok (.aload_n 0, 1) := by decide +kernel
theorem pc_d_join_27 : decode pc_c_join 27 = .ok (.invokevirtual 37, 3) := by decide +kernel
theorem pc_d_join_30 : decode pc_c_join 30 = .ok (.iconst 1, 1) := by decide +kernel
theorem pc_d_join_31 : decode pc_c_join 31 = .ok (.ireturn, 1) := by decide +kernel
theorem pc_d_change_0 : decode pc_c_change 0 = .ok (.aload_n 0, 1) := by decide +kernel
theorem pc_d_change_1 : decode pc_c_change 1 = .ok (.iload_n 1, 1) := by decide +kernel
theorem pc_d_change_2 : decode pc_c_change 2 = .ok (.iload_n 2, 1) := by decide +kernel
theorem pc_d_change_3 : decode pc_c_change 3 = .ok (.invokevirtual 33, 3) := by decide +kernel
theorem pc_d_change_6 : decode pc_c_change 6 = .ok (.ifCond .ne 5, 3) := by decide +kernel
theorem pc_d_change_9 : decode pc_c_change 9 = .ok (.iconst 0, 1) := by decide +kernel
theorem pc_d_change_10 : decode pc_c_change 10 = .ok (.ireturn, 1) := by decide +kernel
theorem pc_d_change_11 : decode pc_c_change 11 = .ok (.aload_n 0, 1) := by decide +kernel
theorem pc_d_change_12 : decode pc_c_change 12 = .ok (.getfield 9, 3) := by decide +kernel
theorem pc_d_change_15 : decode pc_c_change 15 = .ok (.iload_n 1, 1) := by decide +kernel
theorem pc_d_change_16 : decode pc_c_change 16 = .ok (.iaload, 1) := by decide +kernel
theorem pc_d_change_17 : decode pc_c_change 17 = .ok (.istore_n 3, 1) := by decide +kernel
theorem pc_d_change_18 : decode pc_c_change 18 = .ok (.aload_n 0, 1) := by decide +kernel
theorem pc_d_change_19 : decode pc_c_change 19 = .ok (.getfield 9, 3) := by decide +kernel
theorem pc_d_change_22 : decode pc_c_change 22 = .ok (.iload_n 1, 1) := by decide +kernel
theorem pc_d_change_23 : decode pc_c_change 23 = .ok (.aload_n 0, 1) := by decide +kernel
theorem pc_d_change_24 : decode pc_c_change 24 = .ok (.getfield 9, 3) := by decide +kernel
theorem pc_d_change_27 : decode pc_c_change 27 = .ok (.iload_n 2, 1) := by decide +kernel
theorem pc_d_change_28 : decode pc_c_change 28 = .ok (.iaload, 1) := by decide +kernel
theorem pc_d_change_29 : decode pc_c_change 29 = .ok (.iastore, 1) := by decide +kernel
theorem pc_d_change_30 : decode pc_c_change 30 = .ok (.aload_n 0, 1) := by decide +kernel
theorem pc_d_change_31 : decode pc_c_change 31 = .ok (.getfield 9, 3) := by decide +kernel
theorem pc_d_change_34 : decode pc_c_change 34 = .ok (.iload_n 2, 1) := by decide +kernel
theorem pc_d_change_35 : decode pc_c_change 35 = .ok (.iload_n 3, 1) := by decide +kernel
theorem pc_d_change_36 : decode pc_c_change 36 = .ok (.iastore, 1) := by decide +kernel
theorem pc_d_change_37 : decode pc_c_change 37 = .ok (.aload_n 0, 1) := by decide +kernel
theorem pc_d_change_38 : decode pc_c_change 38 = .ok (.invokevirtual 37, 3) := by decide +kernel
theorem pc_d_change_41 : decode pc_c_change 41 = .ok (.iconst 1, 1) := by decide +kernel
theorem pc_d_change_42 : decode pc_c_change 42 = .ok (.ireturn, 1) := by decide +kernel
theorem pc_d_turn_0 : decode pc_c_turn 0 = .ok (.aload_n 0, 1) := by decide +kernel
theorem pc_d_turn_1 : decode pc_c_turn 1 = .ok (.iload_n 1, 1) := by decide +kernel
theorem pc_d_turn_2 : decode pc_c_turn 2 = .ok (.invokevirtual 40, 3) := by decide +kernel
theorem pc_d_turn_5 : decode pc_c_turn 5 = .ok (.ifCond .eq 15, 3) := by decide +kernel
theorem pc_d_turn_8 : decode pc_c_turn 8 = .ok (.iload_n 2, 1) := by decide +kernel
theorem pc_d_turn_9 : decode pc_c_turn 9 = .ok (.bipush (-7), 2) := by decide +kernel
theorem pc_d_turn_11 : decode pc_c_turn 11 = .ok (.if_icmp .lt 9, 3) := by decide +kernel
theorem pc_d_turn_14 : decode pc_c_turn 14 = .ok (.iload_n 2, 1) := by decide +kernel
theorem pc_d_turn_15 : decode pc_c_turn 15 = .ok (.bipush 7, 2) := by decide +kernel
theorem pc_d_turn_17 : decode pc_c_turn 17 = .ok (.if_icmp .le 5, 3) := by decide +kernel
theorem pc_d_turn_20 : decode pc_c_turn 20 = .ok (.iconst 0, 1) := by decide +kernel
theorem pc_d_turn_21 : decode pc_c_turn 21 = .ok (.ireturn, 1) := by decide +kernel
theorem pc_d_turn_22 : decode pc_c_turn 22 = .ok (.aload_n 0, 1) := by decide +kernel
theorem pc_d_turn_23 : decode pc_c_turn 23 = .ok (.getfield 9, 3) := by decide +kernel
theorem pc_d_turn_26 : decode pc_c_turn 26 = .ok (.iload_n 1, 1) := by decide +kernel
theorem pc_d_turn_27 : decode pc_c_turn 27 = .ok (.iaload, 1) := by decide +kernel
theorem pc_d_turn_28 : decode pc_c_turn 28 = .ok (.istore_n 3, 1) := by decide +kernel
theorem pc_d_turn_29 : decode pc_c_turn 29 = .ok (.aload_n 0, 1) := by decide +kernel
theorem pc_d_turn_30 : decode pc_c_turn 30 = .ok (.getfield 13, 3) := by decide +kernel
theorem pc_d_turn_33 : decode pc_c_turn 33 = .ok (.iload_n 3, 1) := by decide +kernel
theorem pc_d_turn_34 : decode pc_c_turn 34 = .ok (.aload_n 0, 1) := by decide +kernel
theorem pc_d_turn_35 : decode pc_c_turn 35 = .ok (.getfield 13, 3) := by decide +kernel
theorem pc_d_turn_38 : decode pc_c_turn 38 = .ok (.iload_n 3, 1) := by decide +kernel
theorem pc_d_turn_39 : decode pc_c_turn 39 = .ok (.iaload, 1) := by decide +kernel
theorem pc_d_turn_40 : decode pc_c_turn 40 = .ok (.iload_n 2, 1) := by decide +kernel
theorem pc_d_turn_41 : decode pc_c_turn 41 = .ok (.iadd, 1) := by decide +kernel
theorem pc_d_turn_42 : decode pc_c_turn 42 = .ok (.bipush 7, 2) := by decide +kernel
theorem pc_d_turn_44 : decode pc_c_turn 44 = .ok (.iand, 1) := by decide +kernel
theorem pc_d_turn_45 : decode pc_c_turn 45 = .ok (.iastore, 1) := by decide +kernel
theorem pc_d_turn_46 : decode pc_c_turn 46 = .ok (.aload_n 0, 1) := by decide +kernel
theorem pc_d_turn_47 : decode pc_c_turn 47 = .ok (.iconst 0, 1) := by decide +kernel
theorem pc_d_turn_48 : decode pc_c_turn 48 = .ok (.putfield 44, 3) := by decide +kernel
theorem pc_d_turn_51 : decode pc_c_turn 51 = .ok (.aload_n 0, 1) := by decide +kernel
theorem pc_d_turn_52 : decode pc_c_turn 52 = .ok (.iconst (-1), 1) := by decide +kernel
theorem pc_d_turn_53 : decode pc_c_turn 53 = .ok (.putfield 48, 3) := by decide +kernel
theorem pc_d_turn_56 : decode pc_c_turn 56 = .ok (.iconst 1, 1) := by decide +kernel
theorem pc_d_turn_57 : decode pc_c_turn 57 = .ok (.ireturn, 1) := by decide +kernel
theorem pc_d_parity_0 : decode pc_c_parity 0 = .ok (.aload_n 0, 1) := by decide +kernel
theorem pc_d_parity_1 : decode pc_c_parity 1 = .ok (.iload_n 1, 1) := by decide +kernel
theorem pc_d_parity_2 : decode pc_c_parity 2 = .ok (.invokevirtual 40, 3) := by decide +kernel
theorem pc_d_parity_5 : decode pc_c_parity 5 = .ok (.ifCond .eq 12, 3) := by decide +kernel
theorem pc_d_parity_8 : decode pc_c_parity 8 = .ok (.aload_n 0, 1) := by decide +kernel
theorem pc_d_parity_9 : decode pc_c_parity 9 = .ok (.getfield 9, 3) := by decide +kernel
theorem pc_d_parity_12 : decode pc_c_parity 12 = .ok (.iload_n 1, 1) := by decide +kernel
theorem pc_d_parity_13 : decode pc_c_parity 13 = .ok (.iaload, 1) := by decide +kernel
theorem pc_d_parity_14 : decode pc_c_parity 14 = .ok (.goto 4, 3) := by decide +kernel
theorem pc_d_parity_17 : decode pc_c_parity 17 = .ok (.iconst (-1), 1) := by decide +kernel
theorem pc_d_parity_18 : decode pc_c_parity 18 = .ok (.ireturn, 1) := by decide +kernel
theorem pc_d_phase_0 : decode pc_c_phase 0 = .ok (.aload_n 0, 1) := by decide +kernel
theorem pc_d_phase_1 : decode pc_c_phase 1 = .ok (.iload_n 1, 1) := by decide +kernel
theorem pc_d_phase_2 : decode pc_c_phase 2 = .ok (.invokevirtual 52, 3) := by decide +kernel
theorem pc_d_phase_5 : decode pc_c_phase 5 = .ok (.ifCond .eq 12, 3) := by decide +kernel
theorem pc_d_phase_8 : decode pc_c_phase 8 = .ok (.aload_n 0, 1) := by decide +kernel
theorem pc_d_phase_9 : decode pc_c_phase 9 = .ok (.getfield 13, 3) := by decide +kernel
theorem pc_d_phase_12 : decode pc_c_phase 12 = .ok (.iload_n 1, 1) := by decide +kernel
theorem pc_d_phase_13 : decode pc_c_phase 13 = .ok (.iaload, 1) := by decide +kernel
theorem pc_d_phase_14 : decode pc_c_phase 14 = .ok (.goto 4, 3) := by decide +kernel
theorem pc_d_phase_17 : decode pc_c_phase 17 = .ok (.iconst (-1), 1) := by decide +kernel
theorem pc_d_phase_18 : decode pc_c_phase 18 = .ok (.ireturn, 1) := by decide +kernel
theorem pc_d_function_0 : decode pc_c_function 0 = .ok (.iload_n 1, 1) := by decide +kernel
theorem pc_d_function_1 : decode pc_c_function 1 = .ok (.ifCond .lt 11, 3) := by decide +kernel
theorem pc_d_function_4 : decode pc_c_function 4 = .ok (.iload_n 1, 1) := by decide +kernel
theorem pc_d_function_5 : decode pc_c_function 5 = .ok (.aload_n 0, 1) := by decide +kernel
theorem pc_d_function_6 : decode pc_c_function 6 = .ok (.invokevirtual 55, 3) := by decide +kernel
theorem pc_d_function_9 : decode pc_c_function 9 = .ok (.if_icmp .le 5, 3) := by decide +kernel
theorem pc_d_function_12 : decode pc_c_function 12 = .ok (.iconst (-1), 1) := by decide +kernel
theorem pc_d_function_13 : decode pc_c_function 13 = .ok (.ireturn, 1) := by decide +kernel
theorem pc_d_function_14 : decode pc_c_function 14 = .ok (.iconst 0, 1) := by decide +kernel
theorem pc_d_function_15 : decode pc_c_function 15 = .ok (.istore_n 2, 1) := by decide +kernel
theorem pc_d_function_16 : decode pc_c_function 16 = .ok (.iconst 1, 1) := by decide +kernel
theorem pc_d_function_17 : decode pc_c_function 17 = .ok (.istore_n 3, 1) := by decide +kernel
theorem pc_d_function_18 : decode pc_c_function 18 = .ok (.iload_n 3, 1) := by decide +kernel
theorem pc_d_function_19 : decode pc_c_function 19 = .ok (.aload_n 0, 1) := by decide +kernel
theorem pc_d_function_20 : decode pc_c_function 20 = .ok (.invokevirtual 55, 3) := by decide +kernel
theorem pc_d_function_23 : decode pc_c_function 23 = .ok (.if_icmp .gt 29, 3) := by decide +kernel
theorem pc_d_function_26 : decode pc_c_function 26 = .ok (.iload_n 3, 1) := by decide +kernel
theorem pc_d_function_27 : decode pc_c_function 27 = .ok (.iload_n 1, 1) := by decide +kernel
theorem pc_d_function_28 : decode pc_c_function 28 = .ok (.iand, 1) := by decide +kernel
theorem pc_d_function_29 : decode pc_c_function 29 = .ok (.invokestatic 59, 3) := by decide +kernel
theorem pc_d_function_32 : decode pc_c_function 32 = .ok (.iconst 1, 1) := by decide +kernel
theorem pc_d_function_33 : decode pc_c_function 33 = .ok (.iand, 1) := by decide +kernel
theorem pc_d_function_34 : decode pc_c_function 34 = .ok (.ifCond .eq 12, 3) := by decide +kernel
theorem pc_d_function_37 : decode pc_c_function 37 = .ok (.iload_n 2, 1) := by decide +kernel
theorem pc_d_function_38 : decode pc_c_function 38 = .ok (.aload_n 0, 1) := by decide +kernel
theorem pc_d_function_39 : decode pc_c_function 39 = .ok (.getfield 13, 3) := by decide +kernel
theorem pc_d_function_42 : decode pc_c_function 42 = .ok (.iload_n 3, 1) := by decide +kernel
theorem pc_d_function_43 : decode pc_c_function 43 = .ok (.iaload, 1) := by decide +kernel
theorem pc_d_function_44 : decode pc_c_function 44 = .ok (.iadd, 1) := by decide +kernel
theorem pc_d_function_45 : decode pc_c_function 45 = .ok (.istore_n 2, 1) := by decide +kernel
theorem pc_d_function_46 : decode pc_c_function 46 = .ok (.iinc 3 1, 3) := by decide +kernel
theorem pc_d_function_49 : decode pc_c_function 49 = .ok (.goto (-31), 3) := by decide +kernel
theorem pc_d_function_52 : decode pc_c_function 52 = .ok (.iload_n 2, 1) := by decide +kernel
theorem pc_d_function_53 : decode pc_c_function 53 = .ok (.bipush 7, 2) := by decide +kernel
theorem pc_d_function_55 : decode pc_c_function 55 = .ok (.iand, 1) := by decide +kernel
theorem pc_d_function_56 : decode pc_c_function 56 = .ok (.ireturn, 1) := by decide +kernel
theorem pc_d_least_0 : decode pc_c_least 0 = .ok (.iload_n 1, 1) := by decide +kernel
theorem pc_d_least_1 : decode pc_c_least 1 = .ok (.ifCond .ne 11, 3) := by decide +kernel
theorem pc_d_least_4 : decode pc_c_least 4 = .ok (.aload_n 0, 1) := by decide +kernel
theorem pc_d_least_5 : decode pc_c_least 5 = .ok (.invokevirtual 65, 3) := by decide +kernel
theorem pc_d_least_8 : decode pc_c_least 8 = .ok (.getfield 69, 3) := by decide +kernel
theorem pc_d_least_11 : decode pc_c_least 11 = .ok (.ireturn, 1) := by decide +kernel
theorem pc_d_least_12 : decode pc_c_least 12 = .ok (.iload_n 1, 1) := by decide +kernel
theorem pc_d_least_13 : decode pc_c_least 13 = .ok (.iconst 1, 1) := by decide +kernel
theorem pc_d_least_14 : decode pc_c_least 14 = .ok (.if_icmp .ne 11, 3) := by decide +kernel
theorem pc_d_least_17 : decode pc_c_least 17 = .ok (.aload_n 0, 1) := by decide +kernel
theorem pc_d_least_18 : decode pc_c_least 18 = .ok (.invokevirtual 65, 3) := by decide +kernel
theorem pc_d_least_21 : decode pc_c_least 21 = .ok (.getfield 72, 3) := by decide +kernel
theorem pc_d_least_24 : decode pc_c_least 24 = .ok (.ireturn, 1) := by decide +kernel
theorem pc_d_least_25 : decode pc_c_least 25 = .ok (.iload_n 1, 1) := by decide +kernel
theorem pc_d_least_26 : decode pc_c_least 26 = .ok (.bipush 100, 2) := by decide +kernel
theorem pc_d_least_28 : decode pc_c_least 28 = .ok (.if_icmp .le 27, 3) := by decide +kernel
theorem pc_d_least_31 : decode pc_c_least 31 = .ok (.aload_n 0, 1) := by decide +kernel
theorem pc_d_least_32 : decode pc_c_least 32 = .ok (.iload_n 1, 1) := by decide +kernel
theorem pc_d_least_33 : decode pc_c_least 33 = .ok (.bipush 100, 2) := by decide +kernel
theorem pc_d_least_35 : decode pc_c_least 35 = .ok (.isub, 1) := by decide +kernel
theorem pc_d_least_36 : decode pc_c_least 36 = .ok (.invokevirtual 52, 3) := by decide +kernel
theorem pc_d_least_39 : decode pc_c_least 39 = .ok (.ifCond .eq 16, 3) := by decide +kernel
theorem pc_d_least_42 : decode pc_c_least 42 = .ok (.aload_n 0, 1) := by decide +kernel
theorem pc_d_least_43 : decode pc_c_least 43 = .ok (.invokevirtual 65, 3) := by decide +kernel
theorem pc_d_least_46 : decode pc_c_least 46 = .ok (.getfield 75, 3) := by decide +kernel
theorem pc_d_least_49 : decode pc_c_least 49 = .ok (.iload_n 1, 1) := by decide +kernel
theorem pc_d_least_50 : decode pc_c_least 50 = .ok (.bipush 100, 2) := by decide +kernel
theorem pc_d_least_52 : decode pc_c_least 52 = .ok (.isub, 1) := by decide +kernel
theorem pc_d_least_53 : decode pc_c_least 53 = .ok (.iaload, 1) := by decide +kernel
theorem pc_d_least_54 : decode pc_c_least 54 = .ok (.ireturn, 1) := by decide +kernel
theorem pc_d_least_55 : decode pc_c_least 55 = .ok (.iconst (-1), 1) := by decide +kernel
theorem pc_d_least_56 : decode pc_c_least 56 = .ok (.ireturn, 1) := by decide +kernel
theorem pc_d_settle_0 : decode pc_c_settle 0 = .ok (.aload_n 0, 1) := by decide +kernel
theorem pc_d_settle_1 : decode pc_c_settle 1 = .ok (.invokevirtual 65, 3) := by decide +kernel
theorem pc_d_settle_4 : decode pc_c_settle 4 = .ok (.getfield 75, 3) := by decide +kernel
theorem pc_d_settle_7 : decode pc_c_settle 7 = .ok (.astore_n 1, 1) := by decide +kernel
theorem pc_d_settle_8 : decode pc_c_settle 8 = .ok (.iconst 0, 1) := by decide +kernel
theorem pc_d_settle_9 : decode pc_c_settle 9 = .ok (.istore_n 2, 1) := by decide +kernel
theorem pc_d_settle_10 : decode pc_c_settle 10 = .ok (.iconst 1, 1) := by decide +kernel
theorem pc_d_settle_11 : decode pc_c_settle 11 = .ok (.istore_n 3, 1) := by decide +kernel
theorem pc_d_settle_12 : decode pc_c_settle 12 = .ok (.iload_n 3, 1) := by decide +kernel
theorem pc_d_settle_13 : decode pc_c_settle 13 = .ok (.aload_n 0, 1) := by decide +kernel
theorem pc_d_settle_14 : decode pc_c_settle 14 = .ok (.invokevirtual 55, 3) := by decide +kernel
theorem pc_d_settle_17 : decode pc_c_settle 17 = .ok (.if_icmp .gt 33, 3) := by decide +kernel
theorem pc_d_settle_20 : decode pc_c_settle 20 = .ok (.aload_n 0, 1) := by decide +kernel
theorem pc_d_settle_21 : decode pc_c_settle 21 = .ok (.getfield 13, 3) := by decide +kernel
theorem pc_d_settle_24 : decode pc_c_settle 24 = .ok (.iload_n 3, 1) := by decide +kernel
theorem pc_d_settle_25 : decode pc_c_settle 25 = .ok (.iaload, 1) := by decide +kernel
theorem pc_d_settle_26 : decode pc_c_settle 26 = .ok (.aload_n 1, 1) := by decide +kernel
theorem pc_d_settle_27 : decode pc_c_settle 27 = .ok (.iload_n 3, 1) := by decide +kernel
theorem pc_d_settle_28 : decode pc_c_settle 28 = .ok (.iaload, 1) := by decide +kernel
theorem pc_d_settle_29 : decode pc_c_settle 29 = .ok (.if_icmp .eq 15, 3) := by decide +kernel
theorem pc_d_settle_32 : decode pc_c_settle 32 = .ok (.aload_n 0, 1) := by decide +kernel
theorem pc_d_settle_33 : decode pc_c_settle 33 = .ok (.getfield 13, 3) := by decide +kernel
theorem pc_d_settle_36 : decode pc_c_settle 36 = .ok (.iload_n 3, 1) := by decide +kernel
theorem pc_d_settle_37 : decode pc_c_settle 37 = .ok (.aload_n 1, 1) := by decide +kernel
theorem pc_d_settle_38 : decode pc_c_settle 38 = .ok (.iload_n 3, 1) := by decide +kernel
theorem pc_d_settle_39 : decode pc_c_settle 39 = .ok (.iaload, 1) := by decide +kernel
theorem pc_d_settle_40 : decode pc_c_settle 40 = .ok (.iastore, 1) := by decide +kernel
theorem pc_d_settle_41 : decode pc_c_settle 41 = .ok (.iinc 2 1, 3) := by decide +kernel
theorem pc_d_settle_44 : decode pc_c_settle 44 = .ok (.iinc 3 1, 3) := by decide +kernel
theorem pc_d_settle_47 : decode pc_c_settle 47 = .ok (.goto (-35), 3) := by decide +kernel
theorem pc_d_settle_50 : decode pc_c_settle 50 = .ok (.iload_n 2, 1) := by decide +kernel
theorem pc_d_settle_51 : decode pc_c_settle 51 = .ok (.ireturn, 1) := by decide +kernel
theorem pc_d_linear_0 : decode pc_c_linear 0 = .ok (.aload_n 0, 1) := by decide +kernel
theorem pc_d_linear_1 : decode pc_c_linear 1 = .ok (.invokevirtual 78, 3) := by decide +kernel
theorem pc_d_linear_4 : decode pc_c_linear 4 = .ok (.astore_n 2, 1) := by decide +kernel
theorem pc_d_linear_5 : decode pc_c_linear 5 = .ok (.aload_n 0, 1) := by decide +kernel
theorem pc_d_linear_6 : decode pc_c_linear 6 = .ok (.getfield 82, 3) := by decide +kernel
theorem pc_d_linear_9 : decode pc_c_linear 9 = .ok (.iconst (-1), 1) := by decide +kernel
theorem pc_d_linear_10 : decode pc_c_linear 10 = .ok (.if_icmp .ne 16, 3) := by decide +kernel
theorem pc_d_linear_13 : decode pc_c_linear 13 = .ok (.aload_n 0, 1) := by decide +kernel
theorem pc_d_linear_14 : decode pc_c_linear 14 = .ok (.aload_n 2, 1) := by decide +kernel
theorem pc_d_linear_15 : decode pc_c_linear 15 = .ok (.aload_n 0, 1) := by decide +kernel
theorem pc_d_linear_16 : decode pc_c_linear 16 = .ok (.invokevirtual 85, 3) := by decide +kernel
theorem pc_d_linear_19 : decode pc_c_linear 19 = .ok (.iconst 0, 1) := by decide +kernel
theorem pc_d_linear_20 : decode pc_c_linear 20 = .ok (.invokevirtual 88, 3) := by decide +kernel
theorem pc_d_linear_23 : decode pc_c_linear 23 = .ok (.putfield 82, 3) := by decide +kernel
theorem pc_d_linear_26 : decode pc_c_linear 26 = .ok (.aload_n 2, 1) := by decide +kernel
theorem pc_d_linear_27 : decode pc_c_linear 27 = .ok (.aload_n 0, 1) := by decide +kernel
theorem pc_d_linear_28 : decode pc_c_linear 28 = .ok (.getfield 82, 3) := by decide +kernel
theorem pc_d_linear_31 : decode pc_c_linear 31 = .ok (.iload_n 1, 1) := by decide +kernel
theorem pc_d_linear_32 : decode pc_c_linear 32 = .ok (.invokevirtual 92, 3) := by decide +kernel
theorem pc_d_linear_35 : decode pc_c_linear 35 = .ok (.ireturn, 1) := by decide +kernel
theorem pc_d_network_0 : decode pc_c_network 0 = .ok (.aload_n 0, 1) := by decide +kernel
theorem pc_d_network_1 : decode pc_c_network 1 = .ok (.getfield 95, 3) := by decide +kernel
theorem pc_d_network_4 : decode pc_c_network 4 = .ok (.iconst 4, 1) := by decide +kernel
theorem pc_d_network_5 : decode pc_c_network 5 = .ok (.if_icmp .ne 5, 3) := by decide +kernel
theorem pc_d_network_8 : decode pc_c_network 8 = .ok (.iconst (-1), 1) := by decide +kernel
theorem pc_d_network_9 : decode pc_c_network 9 = .ok (.ireturn, 1) := by decide +kernel
theorem pc_d_network_10 : decode pc_c_network 10 = .ok (.aload_n 0, 1) := by decide +kernel
theorem pc_d_network_11 : decode pc_c_network 11 = .ok (.invokevirtual 78, 3) := by decide +kernel
theorem pc_d_network_14 : decode pc_c_network 14 = .ok (.astore_n 2, 1) := by decide +kernel
theorem pc_d_network_15 : decode pc_c_network 15 = .ok (.aload_n 0, 1) := by decide +kernel
theorem pc_d_network_16 : decode pc_c_network 16 = .ok (.getfield 48, 3) := by decide +kernel
theorem pc_d_network_19 : decode pc_c_network 19 = .ok (.iconst (-1), 1) := by decide +kernel
theorem pc_d_network_20 : decode pc_c_network 20 = .ok (.if_icmp .ne 19, 3) := by decide +kernel
theorem pc_d_network_23 : decode pc_c_network 23 = .ok (.aload_n 0, 1) := by decide +kernel
theorem pc_d_network_24 : decode pc_c_network 24 = .ok (.aload_n 2, 1) := by decide +kernel
theorem pc_d_network_25 : decode pc_c_network 25 = .ok (.aload_n 0, 1) := by decide +kernel
theorem pc_d_network_26 : decode pc_c_network 26 = .ok (.invokevirtual 85, 3) := by decide +kernel
theorem pc_d_network_29 : decode pc_c_network 29 = .ok (.aload_n 0, 1) := by decide +kernel
theorem pc_d_network_30 : decode pc_c_network 30 = .ok (.invokevirtual 98, 3) := by decide +kernel
theorem pc_d_network_33 : decode pc_c_network 33 = .ok (.invokevirtual 88, 3) := by decide +kernel
theorem pc_d_network_36 : decode pc_c_network 36 = .ok (.putfield 48, 3) := by decide +kernel
theorem pc_d_network_39 : decode pc_c_network 39 = .ok (.aload_n 2, 1) := by decide +kernel
theorem pc_d_network_40 : decode pc_c_network 40 = .ok (.aload_n 0, 1) := by decide +kernel
theorem pc_d_network_41 : decode pc_c_network 41 = .ok (.getfield 48, 3) := by decide +kernel
theorem pc_d_network_44 : decode pc_c_network 44 = .ok (.iload_n 1, 1) := by decide +kernel
theorem pc_d_network_45 : decode pc_c_network 45 = .ok (.invokevirtual 92, 3) := by decide +kernel
theorem pc_d_network_48 : decode pc_c_network 48 = .ok (.ireturn, 1) := by decide +kernel
theorem pc_d_total_0 : decode pc_c_total 0 = .ok (.iload_n 1, 1) := by decide +kernel
theorem pc_d_total_1 : decode pc_c_total 1 = .ok (.tableswitch 57 0 3 #[31, 36, 43, 49], 31) := by decide +kernel
theorem pc_d_total_32 : decode pc_c_total 32 = .ok (.aload_n 0, 1) := by decide +kernel
theorem pc_d_total_33 : decode pc_c_total 33 = .ok (.getfield 95, 3) := by decide +kernel
theorem pc_d_total_36 : decode pc_c_total 36 = .ok (.ireturn, 1) := by decide +kernel
theorem pc_d_total_37 : decode pc_c_total 37 = .ok (.aload_n 0, 1) := by decide +kernel
theorem pc_d_total_38 : decode pc_c_total 38 = .ok (.bipush 7, 2) := by decide +kernel
theorem pc_d_total_40 : decode pc_c_total 40 = .ok (.invokevirtual 101, 3) := by decide +kernel
theorem pc_d_total_43 : decode pc_c_total 43 = .ok (.ireturn, 1) := by decide +kernel
theorem pc_d_total_44 : decode pc_c_total 44 = .ok (.aload_n 0, 1) := by decide +kernel
theorem pc_d_total_45 : decode pc_c_total 45 = .ok (.iconst 1, 1) := by decide +kernel
theorem pc_d_total_46 : decode pc_c_total 46 = .ok (.invokevirtual 101, 3) := by decide +kernel
theorem pc_d_total_49 : decode pc_c_total 49 = .ok (.ireturn, 1) := by decide +kernel
theorem pc_d_total_50 : decode pc_c_total 50 = .ok (.aload_n 0, 1) := by decide +kernel
theorem pc_d_total_51 : decode pc_c_total 51 = .ok (.getfield 95, 3) := by decide +kernel
theorem pc_d_total_54 : decode pc_c_total 54 = .ok (.invokestatic 104, 3) := by decide +kernel
theorem pc_d_total_57 : decode pc_c_total 57 = .ok (.ireturn, 1) := by decide +kernel
theorem pc_d_total_58 : decode pc_c_total 58 = .ok (.iconst (-1), 1) := by decide +kernel
theorem pc_d_total_59 : decode pc_c_total 59 = .ok (.ireturn, 1) := by decide +kernel
theorem pc_d_startWith_0 : decode pc_c_startWith 0 = .ok (.aload_n 0, 1) := by decide +kernel
theorem pc_d_startWith_1 : decode pc_c_startWith 1 = .ok (.iload_n 1, 1) := by decide +kernel
theorem pc_d_startWith_2 : decode pc_c_startWith 2 = .ok (.putfield 95, 3) := by decide +kernel
theorem pc_d_startWith_5 : decode pc_c_startWith 5 = .ok (.iconst 0, 1) := by decide +kernel
theorem pc_d_startWith_6 : decode pc_c_startWith 6 = .ok (.istore_n 2, 1) := by decide +kernel
theorem pc_d_startWith_7 : decode pc_c_startWith 7 = .ok (.iload_n 2, 1) := by decide +kernel
theorem pc_d_startWith_8 : decode pc_c_startWith 8 = .ok (.iconst 4, 1) := by decide +kernel
theorem pc_d_startWith_9 : decode pc_c_startWith 9 = .ok (.if_icmp .ge 18, 3) := by decide +kernel
theorem pc_d_startWith_12 : decode pc_c_startWith 12 = .ok (.aload_n 0, 1) := by decide +kernel
theorem pc_d_startWith_13 : decode pc_c_startWith 13 = .ok (.getfield 9, 3) := by decide +kernel
theorem pc_d_startWith_16 : decode pc_c_startWith 16 = .ok (.iload_n 2, 1) := by decide +kernel
theorem pc_d_startWith_17 : decode pc_c_startWith 17 = .ok (.iconst 1, 1) := by decide +kernel
theorem pc_d_startWith_18 : decode pc_c_startWith 18 = .ok (.iload_n 2, 1) := by decide +kernel
theorem pc_d_startWith_19 : decode pc_c_startWith 19 = .ok (.ishl, 1) := by decide +kernel
theorem pc_d_startWith_20 : decode pc_c_startWith 20 = .ok (.iastore, 1) := by decide +kernel
theorem pc_d_startWith_21 : decode pc_c_startWith 21 = .ok (.iinc 2 1, 3) := by decide +kernel
theorem pc_d_startWith_24 : decode pc_c_startWith 24 = .ok (.goto (-17), 3) := by decide +kernel
theorem pc_d_startWith_27 : decode pc_c_startWith 27 = .ok (.aload_n 0, 1) := by decide +kernel
theorem pc_d_startWith_28 : decode pc_c_startWith 28 = .ok (.getfield 13, 3) := by decide +kernel
theorem pc_d_startWith_31 : decode pc_c_startWith 31 = .ok (.iconst 0, 1) := by decide +kernel
theorem pc_d_startWith_32 : decode pc_c_startWith 32 = .ok (.invokestatic 107, 3) := by decide +kernel
theorem pc_d_startWith_35 : decode pc_c_startWith 35 = .ok (.aload_n 0, 1) := by decide +kernel
theorem pc_d_startWith_36 : decode pc_c_startWith 36 = .ok (.iconst 0, 1) := by decide +kernel
theorem pc_d_startWith_37 : decode pc_c_startWith 37 = .ok (.putfield 44, 3) := by decide +kernel
theorem pc_d_startWith_40 : decode pc_c_startWith 40 = .ok (.aload_n 0, 1) := by decide +kernel
theorem pc_d_startWith_41 : decode pc_c_startWith 41 = .ok (.invokevirtual 37, 3) := by decide +kernel
theorem pc_d_startWith_44 : decode pc_c_startWith 44 = .ok (.return_, 1) := by decide +kernel
theorem pc_d_forgetPlans_0 : decode pc_c_forgetPlans 0 = .ok (.aload_n 0, 1) := by decide +kernel
theorem pc_d_forgetPlans_1 : decode pc_c_forgetPlans 1 = .ok (.iconst (-1), 1) := by decide +kernel
theorem pc_d_forgetPlans_2 : decode pc_c_forgetPlans 2 = .ok (.putfield 82, 3) := by decide +kernel
theorem pc_d_forgetPlans_5 : decode pc_c_forgetPlans 5 = .ok (.aload_n 0, 1) := by decide +kernel
theorem pc_d_forgetPlans_6 : decode pc_c_forgetPlans 6 = .ok (.iconst (-1), 1) := by decide +kernel
theorem pc_d_forgetPlans_7 : decode pc_c_forgetPlans 7 = .ok (.putfield 48, 3) := by decide +kernel
theorem pc_d_forgetPlans_10 : decode pc_c_forgetPlans 10 = .ok (.return_, 1) := by decide +kernel
theorem pc_d_isWire_0 : decode pc_c_isWire 0 = .ok (.iload_n 1, 1) := by decide +kernel
theorem pc_d_isWire_1 : decode pc_c_isWire 1 = .ok (.ifCond .lt 15, 3) := by decide +kernel
theorem pc_d_isWire_4 : decode pc_c_isWire 4 = .ok (.iload_n 1, 1) := by decide +kernel
theorem pc_d_isWire_5 : decode pc_c_isWire 5 = .ok (.aload_n 0, 1) := by decide +kernel
theorem pc_d_isWire_6 : decode pc_c_isWire 6 = .ok (.getfield 95, 3) := by decide +kernel
theorem pc_d_isWire_9 : decode pc_c_isWire 9 = .ok (.if_icmp .ge 7, 3) := by decide +kernel
theorem pc_d_isWire_12 : decode pc_c_isWire 12 = .ok (.iconst 1, 1) := by decide +kernel
theorem pc_d_isWire_13 : decode pc_c_isWire 13 = .ok (.goto 4, 3) := by decide +kernel
theorem pc_d_isWire_16 : decode pc_c_isWire 16 = .ok (.iconst 0, 1) := by decide +kernel
theorem pc_d_isWire_17 : decode pc_c_isWire 17 = .ok (.ireturn, 1) := by decide +kernel
theorem pc_d_areTwoWires_0 : decode pc_c_areTwoWires 0 = .ok (.aload_n 0, 1) := by decide +kernel
theorem pc_d_areTwoWires_1 : decode pc_c_areTwoWires 1 = .ok (.iload_n 1, 1) := by decide +kernel
theorem pc_d_areTwoWires_2 : decode pc_c_areTwoWires 2 = .ok (.invokevirtual 40, 3) := by decide +kernel
theorem pc_d_areTwoWires_5 : decode pc_c_areTwoWires 5 = .ok (.ifCond .eq 20, 3) := by decide +kernel
theorem pc_d_areTwoWires_8 : decode pc_c_areTwoWires 8 = .ok (.aload_n 0, 1) := by decide +kernel
theorem pc_d_areTwoWires_9 : decode pc_c_areTwoWires 9 = .ok (.iload_n 2, 1) := by decide +kernel
theorem pc_d_areTwoWires_10 : decode pc_c_areTwoWires 10 = .ok (.invokevirtual 40, 3) := by decide +kernel
theorem pc_d_areTwoWires_13 : decode pc_c_areTwoWires 13 = .ok (.ifCond .eq 12, 3) := by decide +kernel
theorem pc_d_areTwoWires_16 : decode pc_c_areTwoWires 16 = .ok (.iload_n 1, 1) := by decide +kernel
theorem pc_d_areTwoWires_17 : decode pc_c_areTwoWires 17 = .ok (.iload_n 2, 1) := by decide +kernel
theorem pc_d_areTwoWires_18 : decode pc_c_areTwoWires 18 = .ok (.if_icmp .eq 7, 3) := by decide +kernel
theorem pc_d_areTwoWires_21 : decode pc_c_areTwoWires 21 = .ok (.iconst 1, 1) := by decide +kernel
theorem pc_d_areTwoWires_22 : decode pc_c_areTwoWires 22 = .ok (.goto 4, 3) := by decide +kernel
theorem pc_d_areTwoWires_25 : decode pc_c_areTwoWires 25 = .ok (.iconst 0, 1) := by decide +kernel
theorem pc_d_areTwoWires_26 : decode pc_c_areTwoWires 26 = .ok (.ireturn, 1) := by decide +kernel
theorem pc_d_isParity_0 : decode pc_c_isParity 0 = .ok (.iload_n 1, 1) := by decide +kernel
theorem pc_d_isParity_1 : decode pc_c_isParity 1 = .ok (.iconst 1, 1) := by decide +kernel
theorem pc_d_isParity_2 : decode pc_c_isParity 2 = .ok (.if_icmp .lt 15, 3) := by decide +kernel
theorem pc_d_isParity_5 : decode pc_c_isParity 5 = .ok (.iload_n 1, 1) := by decide +kernel
theorem pc_d_isParity_6 : decode pc_c_isParity 6 = .ok (.aload_n 0, 1) := by decide +kernel
theorem pc_d_isParity_7 : decode pc_c_isParity 7 = .ok (.invokevirtual 55, 3) := by decide +kernel
theorem pc_d_isParity_10 : decode pc_c_isParity 10 = .ok (.if_icmp .gt 7, 3) := by decide +kernel
theorem pc_d_isParity_13 : decode pc_c_isParity 13 = .ok (.iconst 1, 1) := by decide +kernel
theorem pc_d_isParity_14 : decode pc_c_isParity 14 = .ok (.goto 4, 3) := by decide +kernel
theorem pc_d_isParity_17 : decode pc_c_isParity 17 = .ok (.iconst 0, 1) := by decide +kernel
theorem pc_d_isParity_18 : decode pc_c_isParity 18 = .ok (.ireturn, 1) := by decide +kernel
theorem pc_d_lastParity_0 : decode pc_c_lastParity 0 = .ok (.iconst 1, 1) := by decide +kernel
theorem pc_d_lastParity_1 : decode pc_c_lastParity 1 = .ok (.aload_n 0, 1) := by decide +kernel
theorem pc_d_lastParity_2 : decode pc_c_lastParity 2 = .ok (.getfield 95, 3) := by decide +kernel
theorem pc_d_lastParity_5 : decode pc_c_lastParity 5 = .ok (.ishl, 1) := by decide +kernel
theorem pc_d_lastParity_6 : decode pc_c_lastParity 6 = .ok (.iconst 1, 1) := by decide +kernel
theorem pc_d_lastParity_7 : decode pc_c_lastParity 7 = .ok (.isub, 1) := by decide +kernel
theorem pc_d_lastParity_8 : decode pc_c_lastParity 8 = .ok (.ireturn, 1) := by decide +kernel
theorem pc_d_countPhases_0 : decode pc_c_countPhases 0 = .ok (.iconst 0, 1) := by decide +kernel
theorem pc_d_countPhases_1 : decode pc_c_countPhases 1 = .ok (.istore_n 2, 1) := by decide +kernel
theorem pc_d_countPhases_2 : decode pc_c_countPhases 2 = .ok (.iconst 1, 1) := by decide +kernel
theorem pc_d_countPhases_3 : decode pc_c_countPhases 3 = .ok (.istore_n 3, 1) := by decide +kernel
theorem pc_d_countPhases_4 : decode pc_c_countPhases 4 = .ok (.iload_n 3, 1) := by decide +kernel
theorem pc_d_countPhases_5 : decode pc_c_countPhases 5 = .ok (.aload_n 0, 1) := by decide +kernel
theorem pc_d_countPhases_6 : decode pc_c_countPhases 6 = .ok (.invokevirtual 55, 3) := by decide +kernel
theorem pc_d_countPhases_9 : decode pc_c_countPhases 9 = .ok (.if_icmp .gt 23, 3) := by decide +kernel
theorem pc_d_countPhases_12 : decode pc_c_countPhases 12 = .ok (.aload_n 0, 1) := by decide +kernel
theorem pc_d_countPhases_13 : decode pc_c_countPhases 13 = .ok (.getfield 13, 3) := by decide +kernel
theorem pc_d_countPhases_16 : decode pc_c_countPhases 16 = .ok (.iload_n 3, 1) := by decide +kernel
theorem pc_d_countPhases_17 : decode pc_c_countPhases 17 = .ok (.iaload, 1) := by decide +kernel
theorem pc_d_countPhases_18 : decode pc_c_countPhases 18 = .ok (.iload_n 1, 1) := by decide +kernel
theorem pc_d_countPhases_19 : decode pc_c_countPhases 19 = .ok (.iand, 1) := by decide +kernel
theorem pc_d_countPhases_20 : decode pc_c_countPhases 20 = .ok (.ifCond .eq 6, 3) := by decide +kernel
theorem pc_d_countPhases_23 : decode pc_c_countPhases 23 = .ok (.iinc 2 1, 3) := by decide +kernel
theorem pc_d_countPhases_26 : decode pc_c_countPhases 26 = .ok (.iinc 3 1, 3) := by decide +kernel
theorem pc_d_countPhases_29 : decode pc_c_countPhases 29 = .ok (.goto (-25), 3) := by decide +kernel
theorem pc_d_countPhases_32 : decode pc_c_countPhases 32 = .ok (.iload_n 2, 1) := by decide +kernel
theorem pc_d_countPhases_33 : decode pc_c_countPhases 33 = .ok (.ireturn, 1) := by decide +kernel
theorem pc_d_knownLeast_0 : decode pc_c_knownLeast 0 = .ok (.aload_n 0, 1) := by decide +kernel
theorem pc_d_knownLeast_1 : decode pc_c_knownLeast 1 = .ok (.getfield 44, 3) := by decide +kernel
theorem pc_d_knownLeast_4 : decode pc_c_knownLeast 4 = .ok (.ifCond .ne 23, 3) := by decide +kernel
theorem pc_d_knownLeast_7 : decode pc_c_knownLeast 7 = .ok (.aload_n 0, 1) := by decide +kernel
theorem pc_d_knownLeast_8 : decode pc_c_knownLeast 8 = .ok (.getfield 19, 3) := by decide +kernel
theorem pc_d_knownLeast_11 : decode pc_c_knownLeast 11 = .ok (.aload_n 0, 1) := by decide +kernel
theorem pc_d_knownLeast_12 : decode pc_c_knownLeast 12 = .ok (.getfield 13, 3) := by decide +kernel
theorem pc_d_knownLeast_15 : decode pc_c_knownLeast 15 = .ok (.aload_n 0, 1) := by decide +kernel
theorem pc_d_knownLeast_16 : decode pc_c_knownLeast 16 = .ok (.getfield 95, 3) := by decide +kernel
theorem pc_d_knownLeast_19 : decode pc_c_knownLeast 19 = .ok (.invokevirtual 113, 3) := by decide +kernel
theorem pc_d_knownLeast_22 : decode pc_c_knownLeast 22 = .ok (.aload_n 0, 1) := by decide +kernel
theorem pc_d_knownLeast_23 : decode pc_c_knownLeast 23 = .ok (.iconst 1, 1) := by decide +kernel
theorem pc_d_knownLeast_24 : decode pc_c_knownLeast 24 = .ok (.putfield 44, 3) := by decide +kernel
theorem pc_d_knownLeast_27 : decode pc_c_knownLeast 27 = .ok (.aload_n 0, 1) := by decide +kernel
theorem pc_d_knownLeast_28 : decode pc_c_knownLeast 28 = .ok (.getfield 19, 3) := by decide +kernel
theorem pc_d_knownLeast_31 : decode pc_c_knownLeast 31 = .ok (.areturn, 1) := by decide +kernel
theorem pc_d_searchForWires_0 : decode pc_c_searchForWires 0 = .ok (.aload_n 0, 1) := by decide +kernel
theorem pc_d_searchForWires_1 : decode pc_c_searchForWires 1 = .ok (.getfield 25, 3) := by decide +kernel
theorem pc_d_searchForWires_4 : decode pc_c_searchForWires 4 = .ok (.aload_n 0, 1) := by decide +kernel
theorem pc_d_searchForWires_5 : decode pc_c_searchForWires 5 = .ok (.getfield 95, 3) := by decide +kernel
theorem pc_d_searchForWires_8 : decode pc_c_searchForWires 8 = .ok (.aaload, 1) := by decide +kernel
theorem pc_d_searchForWires_9 : decode pc_c_searchForWires 9 = .ok (.ifnonnull 23, 3) := by decide +kernel
theorem pc_d_searchForWires_12 : decode pc_c_searchForWires 12 = .ok (.aload_n 0, 1) := by decide +kernel
theorem pc_d_searchForWires_13 : decode pc_c_searchForWires 13 = .ok (.getfield 25, 3) := by decide +kernel
theorem pc_d_searchForWires_16 : decode pc_c_searchForWires 16 = .ok (.aload_n 0, 1) := by decide +kernel
theorem pc_d_searchForWires_17 : decode pc_c_searchForWires 17 = .ok (.getfield 95, 3) := by decide +kernel
theorem pc_d_searchForWires_20 : decode pc_c_searchForWires 20 = .ok (.new 23, 3) := by decide +kernel
theorem pc_d_searchForWires_23 : decode pc_c_searchForWires 23 = .ok (.dup, 1) := by decide +kernel
theorem pc_d_searchForWires_24 : decode pc_c_searchForWires 24 = .ok (.aload_n 0, 1) := by decide +kernel
theorem pc_d_searchForWires_25 : decode pc_c_searchForWires 25 = .ok (.getfield 95, 3) := by decide +kernel
theorem pc_d_searchForWires_28 : decode pc_c_searchForWires 28 = .ok (.invokespecial 115, 3) := by decide +kernel
theorem pc_d_searchForWires_31 : decode pc_c_searchForWires 31 = .ok (.aastore, 1) := by decide +kernel
theorem pc_d_searchForWires_32 : decode pc_c_searchForWires 32 = .ok (.aload_n 0, 1) := by decide +kernel
theorem pc_d_searchForWires_33 : decode pc_c_searchForWires 33 = .ok (.getfield 25, 3) := by decide +kernel
theorem pc_d_searchForWires_36 : decode pc_c_searchForWires 36 = .ok (.aload_n 0, 1) := by decide +kernel
theorem pc_d_searchForWires_37 : decode pc_c_searchForWires 37 = .ok (.getfield 95, 3) := by decide +kernel
theorem pc_d_searchForWires_40 : decode pc_c_searchForWires 40 = .ok (.aaload, 1) := by decide +kernel
theorem pc_d_searchForWires_41 : decode pc_c_searchForWires 41 = .ok (.areturn, 1) := by decide +kernel
theorem pc_d_mapCode_0 : decode pc_c_mapCode 0 = .ok (.iconst 0, 1) := by decide +kernel
theorem pc_d_mapCode_1 : decode pc_c_mapCode 1 = .ok (.istore_n 1, 1) := by decide +kernel
theorem pc_d_mapCode_2 : decode pc_c_mapCode 2 = .ok (.iconst 0, 1) := by decide +kernel
theorem pc_d_mapCode_3 : decode pc_c_mapCode 3 = .ok (.istore_n 2, 1) := by decide +kernel
theorem pc_d_mapCode_4 : decode pc_c_mapCode 4 = .ok (.iload_n 2, 1) := by decide +kernel
theorem pc_d_mapCode_5 : decode pc_c_mapCode 5 = .ok (.aload_n 0, 1) := by decide +kernel
theorem pc_d_mapCode_6 : decode pc_c_mapCode 6 = .ok (.getfield 95, 3) := by decide +kernel
theorem pc_d_mapCode_9 : decode pc_c_mapCode 9 = .ok (.if_icmp .ge 25, 3) := by decide +kernel
theorem pc_d_mapCode_12 : decode pc_c_mapCode 12 = .ok (.iload_n 1, 1) := by decide +kernel
theorem pc_d_mapCode_13 : decode pc_c_mapCode 13 = .ok (.aload_n 0, 1) := by decide +kernel
theorem pc_d_mapCode_14 : decode pc_c_mapCode 14 = .ok (.getfield 9, 3) := by decide +kernel
theorem pc_d_mapCode_17 : decode pc_c_mapCode 17 = .ok (.iload_n 2, 1) := by decide +kernel
theorem pc_d_mapCode_18 : decode pc_c_mapCode 18 = .ok (.iaload, 1) := by decide +kernel
theorem pc_d_mapCode_19 : decode pc_c_mapCode 19 = .ok (.iload_n 2, 1) := by decide +kernel
theorem pc_d_mapCode_20 : decode pc_c_mapCode 20 = .ok (.aload_n 0, 1) := by decide +kernel
theorem pc_d_mapCode_21 : decode pc_c_mapCode 21 = .ok (.getfield 95, 3) := by decide +kernel
theorem pc_d_mapCode_24 : decode pc_c_mapCode 24 = .ok (.imul, 1) := by decide +kernel
theorem pc_d_mapCode_25 : decode pc_c_mapCode 25 = .ok (.ishl, 1) := by decide +kernel
theorem pc_d_mapCode_26 : decode pc_c_mapCode 26 = .ok (.ior, 1) := by decide +kernel
theorem pc_d_mapCode_27 : decode pc_c_mapCode 27 = .ok (.istore_n 1, 1) := by decide +kernel
theorem pc_d_mapCode_28 : decode pc_c_mapCode 28 = .ok (.iinc 2 1, 3) := by decide +kernel
theorem pc_d_mapCode_31 : decode pc_c_mapCode 31 = .ok (.goto (-27), 3) := by decide +kernel
theorem pc_d_mapCode_34 : decode pc_c_mapCode 34 = .ok (.iload_n 1, 1) := by decide +kernel
theorem pc_d_mapCode_35 : decode pc_c_mapCode 35 = .ok (.ireturn, 1) := by decide +kernel
theorem pc_d_neededParities_0 : decode pc_c_neededParities 0 = .ok (.aload_n 0, 1) := by decide +kernel
theorem pc_d_neededParities_1 : decode pc_c_neededParities 1 = .ok (.invokevirtual 65, 3) := by decide +kernel
theorem pc_d_neededParities_4 : decode pc_c_neededParities 4 = .ok (.getfield 75, 3) := by decide +kernel
theorem pc_d_neededParities_7 : decode pc_c_neededParities 7 = .ok (.astore_n 1, 1) := by decide +kernel
theorem pc_d_neededParities_8 : decode pc_c_neededParities 8 = .ok (.iconst 0, 1) := by decide +kernel
theorem pc_d_neededParities_9 : decode pc_c_neededParities 9 = .ok (.istore_n 2, 1) := by decide +kernel
theorem pc_d_neededParities_10 : decode pc_c_neededParities 10 = .ok (.iconst 1, 1) := by decide +kernel
theorem pc_d_neededParities_11 : decode pc_c_neededParities 11 = .ok (.istore_n 3, 1) := by decide +kernel
theorem pc_d_neededParities_12 : decode pc_c_neededParities 12 = .ok (.iload_n 3, 1) := by decide +kernel
theorem pc_d_neededParities_13 : decode pc_c_neededParities 13 = .ok (.aload_n 0, 1) := by decide +kernel
theorem pc_d_neededParities_14 : decode pc_c_neededParities 14 = .ok (.invokevirtual 55, 3) := by decide +kernel
theorem pc_d_neededParities_17 : decode pc_c_neededParities 17 = .ok (.if_icmp .gt 23, 3) := by decide +kernel
theorem pc_d_neededParities_20 : decode pc_c_neededParities 20 = .ok (.aload_n 1, 1) := by decide +kernel
theorem pc_d_neededParities_21 : decode pc_c_neededParities 21 = .ok (.iload_n 3, 1) := by decide +kernel
theorem pc_d_neededParities_22 : decode pc_c_neededParities 22 = .ok (.iaload, 1) := by decide +kernel
theorem pc_d_neededParities_23 : decode pc_c_neededParities 23 = .ok (.ifCond .eq 11, 3) := by decide +kernel
theorem pc_d_neededParities_26 : decode pc_c_neededParities 26 = .ok (.iload_n 2, 1) := by decide +kernel
theorem pc_d_neededParities_27 : decode pc_c_neededParities 27 = .ok (.iconst 1, 1) := by decide +kernel
theorem pc_d_neededParities_28 : decode pc_c_neededParities 28 = .ok (.iload_n 3, 1) := by decide +kernel
theorem pc_d_neededParities_29 : decode pc_c_neededParities 29 = .ok (.iconst 1, 1) := by decide +kernel
theorem pc_d_neededParities_30 : decode pc_c_neededParities 30 = .ok (.isub, 1) := by decide +kernel
theorem pc_d_neededParities_31 : decode pc_c_neededParities 31 = .ok (.ishl, 1) := by decide +kernel
theorem pc_d_neededParities_32 : decode pc_c_neededParities 32 = .ok (.ior, 1) := by decide +kernel
theorem pc_d_neededParities_33 : decode pc_c_neededParities 33 = .ok (.istore_n 2, 1) := by decide +kernel
theorem pc_d_neededParities_34 : decode pc_c_neededParities 34 = .ok (.iinc 3 1, 3) := by decide +kernel
theorem pc_d_neededParities_37 : decode pc_c_neededParities 37 = .ok (.goto (-25), 3) := by decide +kernel
theorem pc_d_neededParities_40 : decode pc_c_neededParities 40 = .ok (.iload_n 2, 1) := by decide +kernel
theorem pc_d_neededParities_41 : decode pc_c_neededParities 41 = .ok (.ireturn, 1) := by decide +kernel
