theorem pm_d_init_0 : decode pm_c_init 0 = .ok (.aload_n 0, 1) := by decide +kernel
theorem pm_d_init_1 : decode pm_c_init 1 = .ok (.invokespecial 1, 3) := by decide +kernel
theorem pm_d_init_4 : decode pm_c_init 4 = .ok (.aload_n 0, 1) := by decide +kernel
theorem pm_d_init_5 : decode pm_c_init 5 = .ok (.iconst 4, 1) := by decide +kernel
theorem pm_d_init_6 : decode pm_c_init 6 = .ok (.newarray .int, 2) := by decide +kernel
theorem pm_d_init_8 : decode pm_c_init 8 = .ok (.putfield 7, 3) := by decide +kernel
theorem pm_d_init_11 : decode pm_c_init 11 = .ok (.aload_n 0, 1) := by decide +kernel
theorem pm_d_init_12 : decode pm_c_init 12 = .ok (.bipush 16, 2) := by decide +kernel
theorem pm_d_init_14 : decode pm_c_init 14 = .ok (.newarray .int, 2) := by decide +kernel
theorem pm_d_init_16 : decode pm_c_init 16 = .ok (.putfield 13, 3) := by decide +kernel
theorem pm_d_init_19 : decode pm_c_init 19 = .ok (.aload_n 0, 1) := by decide +kernel
theorem pm_d_init_20 : decode pm_c_init 20 = .ok (.bipush 16, 2) := by decide +kernel
theorem pm_d_init_22 : decode pm_c_init 22 = .ok (.newarray .int, 2) := by decide +kernel
theorem pm_d_init_24 : decode pm_c_init 24 = .ok (.putfield 16, 3) := by decide +kernel
theorem pm_d_init_27 : decode pm_c_init 27 = .ok (.aload_n 0, 1) := by decide +kernel
theorem pm_d_init_28 : decode pm_c_init 28 = .ok (.bipush 16, 2) := by decide +kernel
theorem pm_d_init_30 : decode pm_c_init 30 = .ok (.newarray .int, 2) := by decide +kernel
theorem pm_d_init_32 : decode pm_c_init 32 = .ok (.putfield 19, 3) := by decide +kernel
theorem pm_d_init_35 : decode pm_c_init 35 = .ok (.aload_n 0, 1) := by decide +kernel
theorem pm_d_init_36 : decode pm_c_init 36 = .ok (.bipush 6, 2) := by decide +kernel
theorem pm_d_init_38 : decode pm_c_init 38 = .ok (.newarray .int, 2) := by decide +kernel
theorem pm_d_init_40 : decode pm_c_init 40 = .ok (.putfield 22, 3) := by decide +kernel
theorem pm_d_init_43 : decode pm_c_init 43 = .ok (.aload_n 0, 1) := by decide +kernel
theorem pm_d_init_44 : decode pm_c_init 44 = .ok (.ldc 25, 2) := by decide +kernel
theorem pm_d_init_46 : decode pm_c_init 46 = .ok (.newarray .boolean, 2) := by decide +kernel
theorem pm_d_init_48 : decode pm_c_init 48 = .ok (.putfield 26, 3) := by decide +kernel
theorem pm_d_init_51 : decode pm_c_init 51 = .ok (.aload_n 0, 1) := by decide +kernel
theorem pm_d_init_52 : decode pm_c_init 52 = .ok (.ldc 25, 2) := by decide +kernel
theorem pm_d_init_54 : decode pm_c_init 54 = .ok (.newarray .int, 2) := by decide +kernel
theorem pm_d_init_56 : decode pm_c_init 56 = .ok (.putfield 30, 3) := by decide +kernel
theorem pm_d_init_59 : decode pm_c_init 59 = .ok (.aload_n 0, 1) := by decide +kernel
theorem pm_d_init_60 : decode pm_c_init 60 = .ok (.ldc 25, 2) := by decide +kernel
theorem pm_d_init_62 : decode pm_c_init 62 = .ok (.newarray .int, 2) := by decide +kernel
theorem pm_d_init_64 : decode pm_c_init 64 = .ok (.putfield 33, 3) := by decide +kernel
theorem pm_d_init_67 : decode pm_c_init 67 = .ok (.aload_n 0, 1) := by decide +kernel
theorem pm_d_init_68 : decode pm_c_init 68 = .ok (.ldc 25, 2) := by decide +kernel
theorem pm_d_init_70 : decode pm_c_init 70 = .ok (.newarray .int, 2) := by decide +kernel
theorem pm_d_init_72 : decode pm_c_init 72 = .ok (.putfield 36, 3) := by decide +kernel
theorem pm_d_init_75 : decode pm_c_init 75 = .ok (.aload_n 0, 1) := by decide +kernel
theorem pm_d_init_76 : decode pm_c_init 76 = .ok (.bipush 64, 2) := by decide +kernel
theorem pm_d_init_78 : decode pm_c_init 78 = .ok (.newarray .int, 2) := by decide +kernel
theorem pm_d_init_80 : decode pm_c_init 80 = .ok (.putfield 39, 3) := by decide +kernel
theorem pm_d_init_83 : decode pm_c_init 83 = .ok (.aload_n 0, 1) := by decide +kernel
theorem pm_d_init_84 : decode pm_c_init 84 = .ok (.bipush 64, 2) := by decide +kernel
theorem pm_d_init_86 : decode pm_c_init 86 = .ok (.newarray .int, 2) := by decide +kernel
theorem pm_d_init_88 : decode pm_c_init 88 = .ok (.putfield 42, 3) := by decide +kernel
theorem pm_d_init_91 : decode pm_c_init 91 = .ok (.aload_n 0, 1) := by decide +kernel
theorem pm_d_init_92 : decode pm_c_init 92 = .ok (.bipush 64, 2) := by decide +kernel
theorem pm_d_init_94 : decode pm_c_init 94 = .ok (.newarray .int, 2) := by decide +kernel
theorem pm_d_init_96 : decode pm_c_init 96 = .ok (.putfield 45, 3) := by decide +kernel
theorem pm_d_init_99 : decode pm_c_init 99 = .ok (.aload_n 0, 1) := by decide +kernel
theorem pm_d_init_100 : decode pm_c_init 100 = .ok (.iconst 1, 1) := by decide +kernel
theorem pm_d_init_101 : decode pm_c_init 101 = .ok (.invokevirtual 48, 3) := by decide +kernel
theorem pm_d_init_104 : decode pm_c_init 104 = .ok (.return_, 1) := by decide +kernel
theorem pm_d_start_0 : decode pm_c_start 0 = .ok (.aload_n 0, 1) := by decide +kernel
theorem pm_d_start_1 : decode pm_c_start 1 = .ok (.iload_n 1, 1) := by decide +kernel
theorem pm_d_start_2 : decode pm_c_start 2 = .ok (.putfield 56, 3) := by decide +kernel
theorem pm_d_start_5 : decode pm_c_start 5 = .ok (.iconst 0, 1) := by decide +kernel
theorem pm_d_start_6 : decode pm_c_start 6 = .ok (.istore_n 2, 1) := by decide +kernel
theorem pm_d_start_7 : decode pm_c_start 7 = .ok (.iload_n 2, 1) := by decide +kernel
theorem pm_d_start_8 : decode pm_c_start 8 = .ok (.iconst 4, 1) := by decide +kernel
theorem pm_d_start_9 : decode pm_c_start 9 = .ok (.if_icmp .ge 27, 3) := by decide +kernel
theorem pm_d_start_12 : decode pm_c_start 12 = .ok (.aload_n 0, 1) := by decide +kernel
theorem pm_d_start_13 : decode pm_c_start 13 = .ok (.getfield 7, 3) := by decide +kernel
theorem pm_d_start_16 : decode pm_c_start 16 = .ok (.iload_n 2, 1) := by decide +kernel
theorem pm_d_start_17 : decode pm_c_start 17 = .ok (.iload_n 2, 1) := by decide +kernel
theorem pm_d_start_18 : decode pm_c_start 18 = .ok (.iload_n 1, 1) := by decide +kernel
theorem pm_d_start_19 : decode pm_c_start 19 = .ok (.if_icmp .ge 9, 3) := by decide +kernel
theorem pm_d_start_22 : decode pm_c_start 22 = .ok (.iconst 1, 1) := by decide +kernel
theorem pm_d_start_23 : decode pm_c_start 23 = .ok (.iload_n 2, 1) := by decide +kernel
theorem pm_d_start_24 : decode pm_c_start 24 = .ok (.ishl, 1) := by decide +kernel
theorem pm_d_start_25 : decode pm_c_start 25 = .ok (.goto 4, 3) := by decide +kernel
theorem pm_d_start_28 : decode pm_c_start 28 = .ok (.iconst 0, 1) := by decide +kernel
theorem pm_d_start_29 : decode pm_c_start 29 = .ok (.iastore, 1) := by decide +kernel
theorem pm_d_start_30 : decode pm_c_start 30 = .ok (.iinc 2 1, 3) := by decide +kernel
theorem pm_d_start_33 : decode pm_c_start 33 = .ok (.goto (-26), 3) := by decide +kernel
theorem pm_d_start_36 : decode pm_c_start 36 = .ok (.iconst 0, 1) := by decide +kernel
theorem pm_d_start_37 : decode pm_c_start 37 = .ok (.istore_n 2, 1) := by decide +kernel
theorem pm_d_start_38 : decode pm_c_start 38 = .ok (.iload_n 2, 1) := by decide +kernel
theorem pm_d_start_39 : decode pm_c_start 39 = .ok (.bipush 16, 2) := by decide +kernel
theorem pm_d_start_41 : decode pm_c_start 41 = .ok (.if_icmp .ge 16, 3) := by decide +kernel
theorem pm_d_start_44 : decode pm_c_start 44 = .ok (.aload_n 0, 1) := by decide +kernel
theorem pm_d_start_45 : decode pm_c_start 45 = .ok (.getfield 13, 3) := by decide +kernel
theorem pm_d_start_48 : decode pm_c_start 48 = .ok (.iload_n 2, 1) := by decide +kernel
theorem pm_d_start_49 : decode pm_c_start 49 = .ok (.iconst 0, 1) := by decide +kernel
theorem pm_d_start_50 : decode pm_c_start 50 = .ok (.iastore, 1) := by decide +kernel
theorem pm_d_start_51 : decode pm_c_start 51 = .ok (.iinc 2 1, 3) := by decide +kernel
theorem pm_d_start_54 : decode pm_c_start 54 = .ok (.goto (-16), 3) := by decide +kernel
theorem pm_d_start_57 : decode pm_c_start 57 = .ok (.aload_n 0, 1) := by decide +kernel
theorem pm_d_start_58 : decode pm_c_start 58 = .ok (.invokevirtual 59, 3) := by decide +kernel
theorem pm_d_start_61 : decode pm_c_start 61 = .ok (.aload_n 0, 1) := by decide +kernel
theorem pm_d_start_62 : decode pm_c_start 62 = .ok (.iconst 0, 1) := by decide +kernel
theorem pm_d_start_63 : decode pm_c_start 63 = .ok (.putfield 62, 3) := by decide +kernel
theorem pm_d_start_66 : decode pm_c_start 66 = .ok (.return_, 1) := by decide +kernel
theorem pm_d_phasesChange_0 : decode pm_c_phasesChange 0 = .ok (.aload_n 0, 1) := by decide +kernel
theorem pm_d_phasesChange_1 : decode pm_c_phasesChange 1 = .ok (.iconst 0, 1) := by decide +kernel
theorem pm_d_phasesChange_2 : decode pm_c_phasesChange 2 = .ok (.putfield 66, 3) := by decide +kernel
theorem pm_d_phasesChange_5 : decode pm_c_phasesChange 5 = .ok (.aload_n 0, 1) := by decide +kernel
theorem pm_d_phasesChange_6 : decode pm_c_phasesChange 6 = .ok (.iconst 0, 1) := by decide +kernel
theorem pm_d_phasesChange_7 : decode pm_c_phasesChange 7 = .ok (.putfield 69, 3) := by decide +kernel
theorem pm_d_phasesChange_10 : decode pm_c_phasesChange 10 = .ok (.return_, 1) := by decide +kernel
theorem pm_d_mapChanges_0 : decode pm_c_mapChanges 0 = .ok (.aload_n 0, 1) := by decide +kernel
theorem pm_d_mapChanges_1 : decode pm_c_mapChanges 1 = .ok (.iconst 0, 1) := by decide +kernel
theorem pm_d_mapChanges_2 : decode pm_c_mapChanges 2 = .ok (.putfield 62, 3) := by decide +kernel
theorem pm_d_mapChanges_5 : decode pm_c_mapChanges 5 = .ok (.aload_n 0, 1) := by decide +kernel
theorem pm_d_mapChanges_6 : decode pm_c_mapChanges 6 = .ok (.iconst 0, 1) := by decide +kernel
theorem pm_d_mapChanges_7 : decode pm_c_mapChanges 7 = .ok (.putfield 69, 3) := by decide +kernel
theorem pm_d_mapChanges_10 : decode pm_c_mapChanges 10 = .ok (.return_, 1) := by decide +kernel
theorem pm_d_isWire_0 : decode pm_c_isWire 0 = .ok (.iload_n 1, 1) := by decide +kernel
theorem pm_d_isWire_1 : decode pm_c_isWire 1 = .ok (.ifCond .lt 15, 3) := by decide +kernel
theorem pm_d_isWire_4 : decode pm_c_isWire 4 = .ok (.iload_n 1, 1) := by decide +kernel
theorem pm_d_isWire_5 : decode pm_c_isWire 5 = .ok (.aload_n 0, 1) := by decide +kernel
theorem pm_d_isWire_6 : decode pm_c_isWire 6 = .ok (.getfield 56, 3) := by decide +kernel
theorem pm_d_isWire_9 : decode pm_c_isWire 9 = .ok (.if_icmp .ge 7, 3) := by decide +kernel
theorem pm_d_isWire_12 : decode pm_c_isWire 12 = .ok (.iconst 1, 1) := by decide +kernel
theorem pm_d_isWire_13 : decode pm_c_isWire 13 = .ok (.goto 4, 3) := by decide +kernel
theorem pm_d_isWire_16 : decode pm_c_isWire 16 = .ok (.iconst 0, 1) := by decide +kernel
theorem pm_d_isWire_17 : decode pm_c_isWire 17 = .ok (.ireturn, 1) := by decide +kernel
theorem pm_d_parities_0 : decode pm_c_parities 0 = .ok (.iconst 1, 1) := by decide +kernel
theorem pm_d_parities_1 : decode pm_c_parities 1 = .ok (.aload_n 0, 1) := by decide +kernel
theorem pm_d_parities_2 : decode pm_c_parities 2 = .ok (.getfield 56, 3) := by decide +kernel
theorem pm_d_parities_5 : decode pm_c_parities 5 = .ok (.ishl, 1) := by decide +kernel
theorem pm_d_parities_6 : decode pm_c_parities 6 = .ok (.ireturn, 1) := by decide +kernel
theorem pm_d_begin_0 : decode pm_c_begin 0 = .ok (.aload_n 0, 1) := by decide +kernel
theorem pm_d_begin_1 : decode pm_c_begin 1 = .ok (.iconst 0, 1) := by decide +kernel
theorem pm_d_begin_2 : decode pm_c_begin 2 = .ok (.putfield 52, 3) := by decide +kernel
theorem pm_d_begin_5 : decode pm_c_begin 5 = .ok (.iload_n 1, 1) := by decide +kernel
theorem pm_d_begin_6 : decode pm_c_begin 6 = .ok (.iconst 1, 1) := by decide +kernel
theorem pm_d_begin_7 : decode pm_c_begin 7 = .ok (.if_icmp .lt 8, 3) := by decide +kernel
theorem pm_d_begin_10 : decode pm_c_begin 10 = .ok (.iload_n 1, 1) := by decide +kernel
theorem pm_d_begin_11 : decode pm_c_begin 11 = .ok (.iconst 4, 1) := by decide +kernel
theorem pm_d_begin_12 : decode pm_c_begin 12 = .ok (.if_icmp .le 5, 3) := by decide +kernel
theorem pm_d_begin_15 : decode pm_c_begin 15 = .ok (.iconst 0, 1) := by decide +kernel
theorem pm_d_begin_16 : decode pm_c_begin 16 = .ok (.ireturn, 1) := by decide +kernel
theorem pm_d_begin_17 : decode pm_c_begin 17 = .ok (.aload_n 0, 1) := by decide +kernel
theorem pm_d_begin_18 : decode pm_c_begin 18 = .ok (.iload_n 1, 1) := by decide +kernel
theorem pm_d_begin_19 : decode pm_c_begin 19 = .ok (.invokevirtual 48, 3) := by decide +kernel
theorem pm_d_begin_22 : decode pm_c_begin 22 = .ok (.iconst 1, 1) := by decide +kernel
theorem pm_d_begin_23 : decode pm_c_begin 23 = .ok (.ireturn, 1) := by decide +kernel
theorem pm_d_join_0 : decode pm_c_join 0 = .ok (.aload_n 0, 1) := by decide +kernel
theorem pm_d_join_1 : decode pm_c_join 1 = .ok (.iconst 0, 1) := by decide +kernel
theorem pm_d_join_2 : decode pm_c_join 2 = .ok (.putfield 52, 3) := by decide +kernel
theorem pm_d_join_5 : decode pm_c_join 5 = .ok (.aload_n 0, 1) := by decide +kernel
theorem pm_d_join_6 : decode pm_c_join 6 = .ok (.iload_n 1, 1) := by decide +kernel
theorem pm_d_join_7 : decode pm_c_join 7 = .ok (.invokevirtual 72, 3) := by decide +kernel
theorem pm_d_join_10 : decode pm_c_join 10 = .ok (.ifCond .eq 16, 3) := by decide +kernel
theorem pm_d_join_13 : decode pm_c_join 13 = .ok (.aload_n 0, 1) := by decide +kernel
theorem pm_d_join_14 : decode pm_c_join 14 = .ok (.iload_n 2, 1) := by decide +kernel
theorem pm_d_join_15 : decode pm_c_join 15 = .ok (.invokevirtual 72, 3) := by decide +kernel
theorem pm_d_join_18 : decode pm_c_join 18 = .ok (.ifCond .eq 8, 3) := by decide +kernel
theorem pm_d_join_21 : decode pm_c_join 21 = .ok (.iload_n 1, 1) := by decide +kernel
theorem pm_d_join_22 : decode pm_c_join 22 = .ok (.iload_n 2, 1) := by decide +kernel
theorem pm_d_join_23 : decode pm_c_join 23 = .ok (.if_icmp .ne 5, 3) := by decide +kernel
theorem pm_d_join_26 : decode pm_c_join 26 = .ok (.iconst 0, 1) := by decide +kernel
theorem pm_d_join_27 : decode pm_c_join 27 = .ok (.ireturn, 1) := by decide +kernel
theorem pm_d_join_28 : decode pm_c_join 28 = .ok (.aload_n 0, 1) := by decide +kernel
theorem pm_d_join_29 : decode pm_c_join 29 = .ok (.getfield 7, 3) := by decide +kernel
theorem pm_d_join_32 : decode pm_c_join 32 = .ok (.iload_n 2, 1) := by decide +kernel
theorem pm_d_join_33 : decode pm_c_join 33 = .ok (.dup2, 1) := by decide +kernel
theorem pm_d_join_34 : decode pm_c_join 34 = .ok (.iaload, 1) := by decide +kernel
theorem pm_d_join_35 : decode pm_c_join 35 = .ok (.aload_n 0, 1) := by decide +kernel
theorem pm_d_join_36 : decode pm_c_join 36 = .ok (.getfield 7, 3) := by decide +kernel
theorem pm_d_join_39 : decode pm_c_join 39 = .ok (.iload_n 1, 1) := by decide +kernel
theorem pm_d_join_40 : decode pm_c_join 40 = .ok (.iaload, 1) := by decide +kernel
theorem pm_d_join_41 : decode pm_c_join 41 = .ok (.ixor, 1) := by decide +kernel
theorem pm_d_join_42 : decode pm_c_join 42 = .ok (.iastore, 1) := by decide +kernel
theorem pm_d_join_43 : decode pm_c_join 43 = .ok (.aload_n 0, 1) := by decide +kernel
theorem pm_d_join_44 : decode pm_c_join 44 = .ok (.invokevirtual 76, 3) := by decide +kernel
theorem pm_d_join_47 : decode pm_c_join 47 = .ok (.iconst 1, 1) := by decide +kernel
theorem pm_d_join_48 : decode pm_c_join 48 = .ok (.ireturn, 1) := by decide +kernel
theorem pm_d_change_0 : decode pm_c_change 0 = .ok (.aload_n 0, 1) := by decide +kernel
theorem pm_d_change_1 : decode pm_c_change 1 = .ok (.iconst 0, 1) := by decide +kernel
theorem pm_d_change_2 : decode pm_c_change 2 = .ok (.putfield 52, 3) := by decide +kernel
theorem pm_d_change_5 : decode pm_c_change 5 = .ok (.aload_n 0, 1) := by decide +kernel
theorem pm_d_change_6 : decode pm_c_change 6 = .ok (.iload_n 1, 1) := by decide +kernel
theorem pm_d_change_7 : decode pm_c_change 7 = .ok (.invokevirtual 72, 3) := by decide +kernel
theorem pm_d_change_10 : decode pm_c_change 10 = .ok (.ifCond .eq 16, 3) := by decide +kernel
theorem pm_d_change_13 : decode pm_c_change 13 = .ok (.aload_n 0, 1) := by decide +kernel
theorem pm_d_change_14 : decode pm_c_change 14 = .ok (.iload_n 2, 1) := by decide +kernel
theorem pm_d_change_15 : decode pm_c_change 15 = .ok (.invokevirtual 72, 3) := by decide +kernel
theorem pm_d_change_18 : decode pm_c_change 18 = .ok (.ifCond .eq 8, 3) := by decide +kernel
theorem pm_d_change_21 : decode pm_c_change 21 = .ok (.iload_n 1, 1) := by decide +kernel
theorem pm_d_change_22 : decode pm_c_change 22 = .ok (.iload_n 2, 1) := by decide +kernel
theorem pm_d_change_23 : decode pm_c_change 23 = .ok (.if_icmp .ne 5, 3) := by decide +kernel
theorem pm_d_change_26 : decode pm_c_change 26 = .ok (.iconst 0, 1) := by decide +kernel
theorem pm_d_change_27 : decode pm_c_change 27 = .ok (.ireturn, 1) := by decide +kernel
theorem pm_d_change_28 : decode pm_c_change 28 = .ok (.aload_n 0, 1) := by decide +kernel
theorem pm_d_change_29 : decode pm_c_change 29 = .ok (.getfield 7, 3) := by decide +kernel
theorem pm_d_change_32 : decode pm_c_change 32 = .ok (.iload_n 1, 1) := by decide +kernel
theorem pm_d_change_33 : decode pm_c_change 33 = .ok (.iaload, 1) := by decide +kernel
theorem pm_d_change_34 : decode pm_c_change 34 = .ok (.istore_n 3, 1) := by decide +kernel
theorem pm_d_change_35 : decode pm_c_change 35 = .ok (.aload_n 0, 1) := by decide +kernel
theorem pm_d_change_36 : decode pm_c_change 36 = .ok (.getfield 7, 3) := by decide +kernel
theorem pm_d_change_39 : decode pm_c_change 39 = .ok (.iload_n 1, 1) := by decide +kernel
theorem pm_d_change_40 : decode pm_c_change 40 = .ok (.aload_n 0, 1) := by decide +kernel
theorem pm_d_change_41 : decode pm_c_change 41 = .ok (.getfield 7, 3) := by decide +kernel
theorem pm_d_change_44 : decode pm_c_change 44 = .ok (.iload_n 2, 1) := by decide +kernel
theorem pm_d_change_45 : decode pm_c_change 45 = .ok (.iaload, 1) := by decide +kernel
theorem pm_d_change_46 : decode pm_c_change 46 = .ok (.iastore, 1) := by decide +kernel
theorem pm_d_change_47 : decode pm_c_change 47 = .ok (.aload_n 0, 1) := by decide +kernel
theorem pm_d_change_48 : decode pm_c_change 48 = .ok (.getfield 7, 3) := by decide +kernel
theorem pm_d_change_51 : decode pm_c_change 51 = .ok (.iload_n 2, 1) := by decide +kernel
theorem pm_d_change_52 : decode pm_c_change 52 = .ok (.iload_n 3, 1) := by decide +kernel
theorem pm_d_change_53 : decode pm_c_change 53 = .ok (.iastore, 1) := by decide +kernel
theorem pm_d_change_54 : decode pm_c_change 54 = .ok (.aload_n 0, 1) := by decide +kernel
theorem pm_d_change_55 : decode pm_c_change 55 = .ok (.invokevirtual 76, 3) := by decide +kernel
theorem pm_d_change_58 : decode pm_c_change 58 = .ok (.iconst 1, 1) := by decide +kernel
theorem pm_d_change_59 : decode pm_c_change 59 = .ok (.ireturn, 1) := by decide +kernel
theorem pm_d_turn_0 : decode pm_c_turn 0 = .ok (.aload_n 0, 1) := by decide +kernel
theorem pm_d_turn_1 : decode pm_c_turn 1 = .ok (.iconst 0, 1) := by decide +kernel
theorem pm_d_turn_2 : decode pm_c_turn 2 = .ok (.putfield 52, 3) := by decide +kernel
theorem pm_d_turn_5 : decode pm_c_turn 5 = .ok (.aload_n 0, 1) := by decide +kernel
theorem pm_d_turn_6 : decode pm_c_turn 6 = .ok (.iload_n 1, 1) := by decide +kernel
theorem pm_d_turn_7 : decode pm_c_turn 7 = .ok (.invokevirtual 72, 3) := by decide +kernel
theorem pm_d_turn_10 : decode pm_c_turn 10 = .ok (.ifCond .eq 15, 3) := by decide +kernel
theorem pm_d_turn_13 : decode pm_c_turn 13 = .ok (.iload_n 2, 1) := by decide +kernel
theorem pm_d_turn_14 : decode pm_c_turn 14 = .ok (.bipush (-7), 2) := by decide +kernel
theorem pm_d_turn_16 : decode pm_c_turn 16 = .ok (.if_icmp .lt 9, 3) := by decide +kernel
theorem pm_d_turn_19 : decode pm_c_turn 19 = .ok (.iload_n 2, 1) := by decide +kernel
theorem pm_d_turn_20 : decode pm_c_turn 20 = .ok (.bipush 7, 2) := by decide +kernel
theorem pm_d_turn_22 : decode pm_c_turn 22 = .ok (.if_icmp .le 5, 3) := by decide +kernel
theorem pm_d_turn_25 : decode pm_c_turn 25 = .ok (.iconst 0, 1) := by decide +kernel
theorem pm_d_turn_26 : decode pm_c_turn 26 = .ok (.ireturn, 1) := by decide +kernel
theorem pm_d_turn_27 : decode pm_c_turn 27 = .ok (.aload_n 0, 1) := by decide +kernel
theorem pm_d_turn_28 : decode pm_c_turn 28 = .ok (.getfield 13, 3) := by decide +kernel
theorem pm_d_turn_31 : decode pm_c_turn 31 = .ok (.aload_n 0, 1) := by decide +kernel
theorem pm_d_turn_32 : decode pm_c_turn 32 = .ok (.getfield 7, 3) := by decide +kernel
theorem pm_d_turn_35 : decode pm_c_turn 35 = .ok (.iload_n 1, 1) := by decide +kernel
theorem pm_d_turn_36 : decode pm_c_turn 36 = .ok (.iaload, 1) := by decide +kernel
theorem pm_d_turn_37 : decode pm_c_turn 37 = .ok (.aload_n 0, 1) := by decide +kernel
theorem pm_d_turn_38 : decode pm_c_turn 38 = .ok (.getfield 13, 3) := by decide +kernel
theorem pm_d_turn_41 : decode pm_c_turn 41 = .ok (.aload_n 0, 1) := by decide +kernel
theorem pm_d_turn_42 : decode pm_c_turn 42 = .ok (.getfield 7, 3) := by decide +kernel
theorem pm_d_turn_45 : decode pm_c_turn 45 = .ok (.iload_n 1, 1) := by decide +kernel
theorem pm_d_turn_46 : decode pm_c_turn 46 = .ok (.iaload, 1) := by decide +kernel
theorem pm_d_turn_47 : decode pm_c_turn 47 = .ok (.iaload, 1) := by decide +kernel
theorem pm_d_turn_48 : decode pm_c_turn 48 = .ok (.iload_n 2, 1) := by decide +kernel
theorem pm_d_turn_49 : decode pm_c_turn 49 = .ok (.iadd, 1) := by decide +kernel
theorem pm_d_turn_50 : decode pm_c_turn 50 = .ok (.bipush 7, 2) := by decide +kernel
theorem pm_d_turn_52 : decode pm_c_turn 52 = .ok (.iand, 1) := by decide +kernel
theorem pm_d_turn_53 : decode pm_c_turn 53 = .ok (.iastore, 1) := by decide +kernel
theorem pm_d_turn_54 : decode pm_c_turn 54 = .ok (.aload_n 0, 1) := by decide +kernel
theorem pm_d_turn_55 : decode pm_c_turn 55 = .ok (.invokevirtual 59, 3) := by decide +kernel
theorem pm_d_turn_58 : decode pm_c_turn 58 = .ok (.iconst 1, 1) := by decide +kernel
theorem pm_d_turn_59 : decode pm_c_turn 59 = .ok (.ireturn, 1) := by decide +kernel
theorem pm_d_parity_0 : decode pm_c_parity 0 = .ok (.aload_n 0, 1) := by decide +kernel
theorem pm_d_parity_1 : decode pm_c_parity 1 = .ok (.iconst 0, 1) := by decide +kernel
theorem pm_d_parity_2 : decode pm_c_parity 2 = .ok (.putfield 52, 3) := by decide +kernel
theorem pm_d_parity_5 : decode pm_c_parity 5 = .ok (.aload_n 0, 1) := by decide +kernel
theorem pm_d_parity_6 : decode pm_c_parity 6 = .ok (.iload_n 1, 1) := by decide +kernel
theorem pm_d_parity_7 : decode pm_c_parity 7 = .ok (.invokevirtual 72, 3) := by decide +kernel
theorem pm_d_parity_10 : decode pm_c_parity 10 = .ok (.ifCond .eq 12, 3) := by decide +kernel
theorem pm_d_parity_13 : decode pm_c_parity 13 = .ok (.aload_n 0, 1) := by decide +kernel
theorem pm_d_parity_14 : decode pm_c_parity 14 = .ok (.getfield 7, 3) := by decide +kernel
theorem pm_d_parity_17 : decode pm_c_parity 17 = .ok (.iload_n 1, 1) := by decide +kernel
theorem pm_d_parity_18 : decode pm_c_parity 18 = .ok (.iaload, 1) := by decide +kernel
theorem pm_d_parity_19 : decode pm_c_parity 19 = .ok (.goto 4, 3) := by decide +kernel
theorem pm_d_parity_22 : decode pm_c_parity 22 = .ok (.iconst (-1), 1) := by decide +kernel
theorem pm_d_parity_23 : decode pm_c_parity 23 = .ok (.ireturn, 1) := by decide +kernel
theorem pm_d_phase_0 : decode pm_c_phase 0 = .ok (.aload_n 0, 1) := by decide +kernel
theorem pm_d_phase_1 : decode pm_c_phase 1 = .ok (.iconst 0, 1) := by decide +kernel
theorem pm_d_phase_2 : decode pm_c_phase 2 = .ok (.putfield 52, 3) := by decide +kernel
theorem pm_d_phase_5 : decode pm_c_phase 5 = .ok (.iload_n 1, 1) := by decide +kernel
theorem pm_d_phase_6 : decode pm_c_phase 6 = .ok (.ifCond .le 20, 3) := by decide +kernel
theorem pm_d_phase_9 : decode pm_c_phase 9 = .ok (.iload_n 1, 1) := by decide +kernel
theorem pm_d_phase_10 : decode pm_c_phase 10 = .ok (.aload_n 0, 1) := by decide +kernel
theorem pm_d_phase_11 : decode pm_c_phase 11 = .ok (.invokevirtual 79, 3) := by decide +kernel
theorem pm_d_phase_14 : decode pm_c_phase 14 = .ok (.if_icmp .ge 12, 3) := by decide +kernel
theorem pm_d_phase_17 : decode pm_c_phase 17 = .ok (.aload_n 0, 1) := by decide +kernel
theorem pm_d_phase_18 : decode pm_c_phase 18 = .ok (.getfield 13, 3) := by decide +kernel
theorem pm_d_phase_21 : decode pm_c_phase 21 = .ok (.iload_n 1, 1) := by decide +kernel
theorem pm_d_phase_22 : decode pm_c_phase 22 = .ok (.iaload, 1) := by decide +kernel
theorem pm_d_phase_23 : decode pm_c_phase 23 = .ok (.goto 4, 3) := by decide +kernel
theorem pm_d_phase_26 : decode pm_c_phase 26 = .ok (.iconst (-1), 1) := by decide +kernel
theorem pm_d_phase_27 : decode pm_c_phase 27 = .ok (.ireturn, 1) := by decide +kernel
theorem pm_d_ones_0 : decode pm_c_ones 0 = .ok (.iload_n 0, 1) := by decide +kernel
theorem pm_d_ones_1 : decode pm_c_ones 1 = .ok (.iconst 1, 1) := by decide +kernel
theorem pm_d_ones_2 : decode pm_c_ones 2 = .ok (.iand, 1) := by decide +kernel
theorem pm_d_ones_3 : decode pm_c_ones 3 = .ok (.iload_n 0, 1) := by decide +kernel
theorem pm_d_ones_4 : decode pm_c_ones 4 = .ok (.iconst 1, 1) := by decide +kernel
theorem pm_d_ones_5 : decode pm_c_ones 5 = .ok (.ishr, 1) := by decide +kernel
theorem pm_d_ones_6 : decode pm_c_ones 6 = .ok (.iconst 1, 1) := by decide +kernel
theorem pm_d_ones_7 : decode pm_c_ones 7 = .ok (.iand, 1) := by decide +kernel
theorem pm_d_ones_8 : decode pm_c_ones 8 = .ok (.iadd, 1) := by decide +kernel
theorem pm_d_ones_9 : decode pm_c_ones 9 = .ok (.iload_n 0, 1) := by decide +kernel
theorem pm_d_ones_10 : decode pm_c_ones 10 = .ok (.iconst 2, 1) := by decide +kernel
theorem pm_d_ones_11 : decode pm_c_ones 11 = .ok (.ishr, 1) := by decide +kernel
theorem pm_d_ones_12 : decode pm_c_ones 12 = .ok (.iconst 1, 1) := by decide +kernel
theorem pm_d_ones_13 : decode pm_c_ones 13 = .ok (.iand, 1) := by decide +kernel
theorem pm_d_ones_14 : decode pm_c_ones 14 = .ok (.iadd, 1) := by decide +kernel
theorem pm_d_ones_15 : decode pm_c_ones 15 = .ok (.iload_n 0, 1) := by decide +kernel
theorem pm_d_ones_16 : decode pm_c_ones 16 = .ok (.iconst 3, 1) := by decide +kernel
theorem pm_d_ones_17 : decode pm_c_ones 17 = .ok (.ishr, 1) := by decide +kernel
theorem pm_d_ones_18 : decode pm_c_ones 18 = .ok (.iconst 1, 1) := by decide +kernel
theorem pm_d_ones_19 : decode pm_c_ones 19 = .ok (.iand, 1) := by decide +kernel
theorem pm_d_ones_20 : decode pm_c_ones 20 = .ok (.iadd, 1) := by decide +kernel
theorem pm_d_ones_21 : decode pm_c_ones 21 = .ok (.ireturn, 1) := by decide +kernel
theorem pm_d_function_0 : decode pm_c_function 0 = .ok (.aload_n 0, 1) := by decide +kernel
theorem pm_d_function_1 : decode pm_c_function 1 = .ok (.iconst 0, 1) := by decide +kernel
theorem pm_d_function_2 : decode pm_c_function 2 = .ok (.putfield 52, 3) := by decide +kernel
theorem pm_d_function_5 : decode pm_c_function 5 = .ok (.iload_n 1, 1) := by decide +kernel
theorem pm_d_function_6 : decode pm_c_function 6 = .ok (.ifCond .lt 11, 3) := by decide +kernel
theorem pm_d_function_9 : decode pm_c_function 9 = .ok (.iload_n 1, 1) := by decide +kernel
theorem pm_d_function_10 : decode pm_c_function 10 = .ok (.aload_n 0, 1) := by decide +kernel
theorem pm_d_function_11 : decode pm_c_function 11 = .ok (.invokevirtual 79, 3) := by decide +kernel
theorem pm_d_function_14 : decode pm_c_function 14 = .ok (.if_icmp .lt 5, 3) := by decide +kernel
theorem pm_d_function_17 : decode pm_c_function 17 = .ok (.iconst (-1), 1) := by decide +kernel
theorem pm_d_function_18 : decode pm_c_function 18 = .ok (.ireturn, 1) := by decide +kernel
theorem pm_d_function_19 : decode pm_c_function 19 = .ok (.iconst 0, 1) := by decide +kernel
theorem pm_d_function_20 : decode pm_c_function 20 = .ok (.istore_n 2, 1) := by decide +kernel
theorem pm_d_function_21 : decode pm_c_function 21 = .ok (.iconst 1, 1) := by decide +kernel
theorem pm_d_function_22 : decode pm_c_function 22 = .ok (.istore_n 3, 1) := by decide +kernel
theorem pm_d_function_23 : decode pm_c_function 23 = .ok (.iload_n 3, 1) := by decide +kernel
theorem pm_d_function_24 : decode pm_c_function 24 = .ok (.aload_n 0, 1) := by decide +kernel
theorem pm_d_function_25 : decode pm_c_function 25 = .ok (.invokevirtual 79, 3) := by decide +kernel
theorem pm_d_function_28 : decode pm_c_function 28 = .ok (.if_icmp .ge 27, 3) := by decide +kernel
theorem pm_d_function_31 : decode pm_c_function 31 = .ok (.iload_n 2, 1) := by decide +kernel
theorem pm_d_function_32 : decode pm_c_function 32 = .ok (.iload_n 3, 1) := by decide +kernel
theorem pm_d_function_33 : decode pm_c_function 33 = .ok (.iload_n 1, 1) := by decide +kernel
theorem pm_d_function_34 : decode pm_c_function 34 = .ok (.iand, 1) := by decide +kernel
theorem pm_d_function_35 : decode pm_c_function 35 = .ok (.invokestatic 83, 3) := by decide +kernel
theorem pm_d_function_38 : decode pm_c_function 38 = .ok (.iconst 2, 1) := by decide +kernel
theorem pm_d_function_39 : decode pm_c_function 39 = .ok (.irem, 1) := by decide +kernel
theorem pm_d_function_40 : decode pm_c_function 40 = .ok (.aload_n 0, 1) := by decide +kernel
theorem pm_d_function_41 : decode pm_c_function 41 = .ok (.getfield 13, 3) := by decide +kernel
theorem pm_d_function_44 : decode pm_c_function 44 = .ok (.iload_n 3, 1) := by decide +kernel
theorem pm_d_function_45 : decode pm_c_function 45 = .ok (.iaload, 1) := by decide +kernel
theorem pm_d_function_46 : decode pm_c_function 46 = .ok (.imul, 1) := by decide +kernel
theorem pm_d_function_47 : decode pm_c_function 47 = .ok (.iadd, 1) := by decide +kernel
theorem pm_d_function_48 : decode pm_c_function 48 = .ok (.istore_n 2, 1) := by decide +kernel
theorem pm_d_function_49 : decode pm_c_function 49 = .ok (.iinc 3 1, 3) := by decide +kernel
theorem pm_d_function_52 : decode pm_c_function 52 = .ok (.goto (-29), 3) := by decide +kernel
theorem pm_d_function_55 : decode pm_c_function 55 = .ok (.iload_n 2, 1) := by decide +kernel
theorem pm_d_function_56 : decode pm_c_function 56 = .ok (.bipush 7, 2) := by decide +kernel
theorem pm_d_function_58 : decode pm_c_function 58 = .ok (.iand, 1) := by decide +kernel
theorem pm_d_function_59 : decode pm_c_function 59 = .ok (.ireturn, 1) := by decide +kernel
theorem pm_d_look_0 : decode pm_c_look 0 = .ok (.iconst 0, 1) := by decide +kernel
theorem pm_d_look_1 : decode pm_c_look 1 = .ok (.istore_n 1, 1) := by decide +kernel
theorem pm_d_look_2 : decode pm_c_look 2 = .ok (.iconst 0, 1) := by decide +kernel
theorem pm_d_look_3 : decode pm_c_look 3 = .ok (.istore_n 2, 1) := by decide +kernel
theorem pm_d_look_4 : decode pm_c_look 4 = .ok (.iconst 1, 1) := by decide +kernel
theorem pm_d_look_5 : decode pm_c_look 5 = .ok (.istore_n 3, 1) := by decide +kernel
theorem pm_d_look_6 : decode pm_c_look 6 = .ok (.iload_n 3, 1) := by decide +kernel
theorem pm_d_look_7 : decode pm_c_look 7 = .ok (.aload_n 0, 1) := by decide +kernel
theorem pm_d_look_8 : decode pm_c_look 8 = .ok (.invokevirtual 79, 3) := by decide +kernel
theorem pm_d_look_11 : decode pm_c_look 11 = .ok (.if_icmp .ge 37, 3) := by decide +kernel
theorem pm_d_look_14 : decode pm_c_look 14 = .ok (.iload_n 1, 1) := by decide +kernel
theorem pm_d_look_15 : decode pm_c_look 15 = .ok (.aload_n 0, 1) := by decide +kernel
theorem pm_d_look_16 : decode pm_c_look 16 = .ok (.getfield 16, 3) := by decide +kernel
theorem pm_d_look_19 : decode pm_c_look 19 = .ok (.iload_n 3, 1) := by decide +kernel
theorem pm_d_look_20 : decode pm_c_look 20 = .ok (.iaload, 1) := by decide +kernel
theorem pm_d_look_21 : decode pm_c_look 21 = .ok (.iconst 1, 1) := by decide +kernel
theorem pm_d_look_22 : decode pm_c_look 22 = .ok (.iand, 1) := by decide +kernel
theorem pm_d_look_23 : decode pm_c_look 23 = .ok (.iadd, 1) := by decide +kernel
theorem pm_d_look_24 : decode pm_c_look 24 = .ok (.istore_n 1, 1) := by decide +kernel
theorem pm_d_look_25 : decode pm_c_look 25 = .ok (.iload_n 2, 1) := by decide +kernel
theorem pm_d_look_26 : decode pm_c_look 26 = .ok (.aload_n 0, 1) := by decide +kernel
theorem pm_d_look_27 : decode pm_c_look 27 = .ok (.getfield 16, 3) := by decide +kernel
theorem pm_d_look_30 : decode pm_c_look 30 = .ok (.iload_n 3, 1) := by decide +kernel
theorem pm_d_look_31 : decode pm_c_look 31 = .ok (.iaload, 1) := by decide +kernel
theorem pm_d_look_32 : decode pm_c_look 32 = .ok (.ifCond .ne 7, 3) := by decide +kernel
theorem pm_d_look_35 : decode pm_c_look 35 = .ok (.iconst 0, 1) := by decide +kernel
theorem pm_d_look_36 : decode pm_c_look 36 = .ok (.goto 4, 3) := by decide +kernel
theorem pm_d_look_39 : decode pm_c_look 39 = .ok (.iconst 1, 1) := by decide +kernel
theorem pm_d_look_40 : decode pm_c_look 40 = .ok (.iadd, 1) := by decide +kernel
theorem pm_d_look_41 : decode pm_c_look 41 = .ok (.istore_n 2, 1) := by decide +kernel
theorem pm_d_look_42 : decode pm_c_look 42 = .ok (.iinc 3 1, 3) := by decide +kernel
theorem pm_d_look_45 : decode pm_c_look 45 = .ok (.goto (-39), 3) := by decide +kernel
theorem pm_d_look_48 : decode pm_c_look 48 = .ok (.iload_n 1, 1) := by decide +kernel
theorem pm_d_look_49 : decode pm_c_look 49 = .ok (.aload_n 0, 1) := by decide +kernel
theorem pm_d_look_50 : decode pm_c_look 50 = .ok (.getfield 87, 3) := by decide +kernel
theorem pm_d_look_53 : decode pm_c_look 53 = .ok (.if_icmp .lt 19, 3) := by decide +kernel
theorem pm_d_look_56 : decode pm_c_look 56 = .ok (.iload_n 1, 1) := by decide +kernel
theorem pm_d_look_57 : decode pm_c_look 57 = .ok (.aload_n 0, 1) := by decide +kernel
theorem pm_d_look_58 : decode pm_c_look 58 = .ok (.getfield 87, 3) := by decide +kernel
theorem pm_d_look_61 : decode pm_c_look 61 = .ok (.if_icmp .ne 15, 3) := by decide +kernel
theorem pm_d_look_64 : decode pm_c_look 64 = .ok (.iload_n 2, 1) := by decide +kernel
theorem pm_d_look_65 : decode pm_c_look 65 = .ok (.aload_n 0, 1) := by decide +kernel
theorem pm_d_look_66 : decode pm_c_look 66 = .ok (.getfield 90, 3) := by decide +kernel
theorem pm_d_look_69 : decode pm_c_look 69 = .ok (.if_icmp .ge 7, 3) := by decide +kernel
theorem pm_d_look_72 : decode pm_c_look 72 = .ok (.iconst 1, 1) := by decide +kernel
theorem pm_d_look_73 : decode pm_c_look 73 = .ok (.goto 4, 3) := by decide +kernel
theorem pm_d_look_76 : decode pm_c_look 76 = .ok (.iconst 0, 1) := by decide +kernel
theorem pm_d_look_77 : decode pm_c_look 77 = .ok (.istore_n 3, 1) := by decide +kernel
theorem pm_d_look_78 : decode pm_c_look 78 = .ok (.iload_n 1, 1) := by decide +kernel
theorem pm_d_look_79 : decode pm_c_look 79 = .ok (.aload_n 0, 1) := by decide +kernel
theorem pm_d_look_80 : decode pm_c_look 80 = .ok (.getfield 87, 3) := by decide +kernel
theorem pm_d_look_83 : decode pm_c_look 83 = .ok (.if_icmp .ne 71, 3) := by decide +kernel
theorem pm_d_look_86 : decode pm_c_look 86 = .ok (.iload_n 2, 1) := by decide +kernel
theorem pm_d_look_87 : decode pm_c_look 87 = .ok (.aload_n 0, 1) := by decide +kernel
theorem pm_d_look_88 : decode pm_c_look 88 = .ok (.getfield 90, 3) := by decide +kernel
theorem pm_d_look_91 : decode pm_c_look 91 = .ok (.if_icmp .ne 63, 3) := by decide +kernel
theorem pm_d_look_94 : decode pm_c_look 94 = .ok (.iconst 1, 1) := by decide +kernel
theorem pm_d_look_95 : decode pm_c_look 95 = .ok (.istore 4, 2) := by decide +kernel
theorem pm_d_look_97 : decode pm_c_look 97 = .ok (.iload 4, 2) := by decide +kernel
theorem pm_d_look_99 : decode pm_c_look 99 = .ok (.aload_n 0, 1) := by decide +kernel
theorem pm_d_look_100 : decode pm_c_look 100 = .ok (.invokevirtual 79, 3) := by decide +kernel
theorem pm_d_look_103 : decode pm_c_look 103 = .ok (.iconst 1, 1) := by decide +kernel
theorem pm_d_look_104 : decode pm_c_look 104 = .ok (.isub, 1) := by decide +kernel
theorem pm_d_look_105 : decode pm_c_look 105 = .ok (.if_icmp .ge 26, 3) := by decide +kernel
theorem pm_d_look_108 : decode pm_c_look 108 = .ok (.aload_n 0, 1) := by decide +kernel
theorem pm_d_look_109 : decode pm_c_look 109 = .ok (.getfield 16, 3) := by decide +kernel
theorem pm_d_look_112 : decode pm_c_look 112 = .ok (.iload 4, 2) := by decide +kernel
theorem pm_d_look_114 : decode pm_c_look 114 = .ok (.iaload, 1) := by decide +kernel
theorem pm_d_look_115 : decode pm_c_look 115 = .ok (.aload_n 0, 1) := by decide +kernel
theorem pm_d_look_116 : decode pm_c_look 116 = .ok (.getfield 19, 3) := by decide +kernel
theorem pm_d_look_119 : decode pm_c_look 119 = .ok (.iload 4, 2) := by decide +kernel
theorem pm_d_look_121 : decode pm_c_look 121 = .ok (.iaload, 1) := by decide +kernel
theorem pm_d_look_122 : decode pm_c_look 122 = .ok (.if_icmp .ne 9, 3) := by decide +kernel
theorem pm_d_look_125 : decode pm_c_look 125 = .ok (.iinc 4 1, 3) := by decide +kernel
theorem pm_d_look_128 : decode pm_c_look 128 = .ok (.goto (-31), 3) := by decide +kernel
theorem pm_d_look_131 : decode pm_c_look 131 = .ok (.aload_n 0, 1) := by decide +kernel
theorem pm_d_look_132 : decode pm_c_look 132 = .ok (.getfield 16, 3) := by decide +kernel
theorem pm_d_look_135 : decode pm_c_look 135 = .ok (.iload 4, 2) := by decide +kernel
theorem pm_d_look_137 : decode pm_c_look 137 = .ok (.iaload, 1) := by decide +kernel
theorem pm_d_look_138 : decode pm_c_look 138 = .ok (.aload_n 0, 1) := by decide +kernel
theorem pm_d_look_139 : decode pm_c_look 139 = .ok (.getfield 19, 3) := by decide +kernel
theorem pm_d_look_142 : decode pm_c_look 142 = .ok (.iload 4, 2) := by decide +kernel
theorem pm_d_look_144 : decode pm_c_look 144 = .ok (.iaload, 1) := by decide +kernel
theorem pm_d_look_145 : decode pm_c_look 145 = .ok (.if_icmp .ge 7, 3) := by decide +kernel
theorem pm_d_look_148 : decode pm_c_look 148 = .ok (.iconst 1, 1) := by decide +kernel
theorem pm_d_look_149 : decode pm_c_look 149 = .ok (.goto 4, 3) := by decide +kernel
theorem pm_d_look_152 : decode pm_c_look 152 = .ok (.iconst 0, 1) := by decide +kernel
theorem pm_d_look_153 : decode pm_c_look 153 = .ok (.istore_n 3, 1) := by decide +kernel
theorem pm_d_look_154 : decode pm_c_look 154 = .ok (.iload_n 3, 1) := by decide +kernel
theorem pm_d_look_155 : decode pm_c_look 155 = .ok (.ifCond .ne 4, 3) := by decide +kernel
theorem pm_d_look_158 : decode pm_c_look 158 = .ok (.return_, 1) := by decide +kernel
theorem pm_d_look_159 : decode pm_c_look 159 = .ok (.aload_n 0, 1) := by decide +kernel
theorem pm_d_look_160 : decode pm_c_look 160 = .ok (.iload_n 1, 1) := by decide +kernel
theorem pm_d_look_161 : decode pm_c_look 161 = .ok (.putfield 87, 3) := by decide +kernel
theorem pm_d_look_164 : decode pm_c_look 164 = .ok (.aload_n 0, 1) := by decide +kernel
theorem pm_d_look_165 : decode pm_c_look 165 = .ok (.iload_n 2, 1) := by decide +kernel
theorem pm_d_look_166 : decode pm_c_look 166 = .ok (.putfield 90, 3) := by decide +kernel
theorem pm_d_look_169 : decode pm_c_look 169 = .ok (.iconst 1, 1) := by decide +kernel
theorem pm_d_look_170 : decode pm_c_look 170 = .ok (.istore 4, 2) := by decide +kernel
theorem pm_d_look_172 : decode pm_c_look 172 = .ok (.iload 4, 2) := by decide +kernel
theorem pm_d_look_174 : decode pm_c_look 174 = .ok (.aload_n 0, 1) := by decide +kernel
theorem pm_d_look_175 : decode pm_c_look 175 = .ok (.invokevirtual 79, 3) := by decide +kernel
theorem pm_d_look_178 : decode pm_c_look 178 = .ok (.if_icmp .ge 23, 3) := by decide +kernel
theorem pm_d_look_181 : decode pm_c_look 181 = .ok (.aload_n 0, 1) := by decide +kernel
theorem pm_d_look_182 : decode pm_c_look 182 = .ok (.getfield 19, 3) := by decide +kernel
theorem pm_d_look_185 : decode pm_c_look 185 = .ok (.iload 4, 2) := by decide +kernel
theorem pm_d_look_187 : decode pm_c_look 187 = .ok (.aload_n 0, 1) := by decide +kernel
theorem pm_d_look_188 : decode pm_c_look 188 = .ok (.getfield 16, 3) := by decide +kernel
theorem pm_d_look_191 : decode pm_c_look 191 = .ok (.iload 4, 2) := by decide +kernel
theorem pm_d_look_193 : decode pm_c_look 193 = .ok (.iaload, 1) := by decide +kernel
theorem pm_d_look_194 : decode pm_c_look 194 = .ok (.iastore, 1) := by decide +kernel
theorem pm_d_look_195 : decode pm_c_look 195 = .ok (.iinc 4 1, 3) := by decide +kernel
theorem pm_d_look_198 : decode pm_c_look 198 = .ok (.goto (-26), 3) := by decide +kernel
theorem pm_d_look_201 : decode pm_c_look 201 = .ok (.return_, 1) := by decide +kernel
theorem pm_d_addWithin_0 : decode pm_c_addWithin 0 = .ok (.iconst 1, 1) := by decide +kernel
theorem pm_d_addWithin_1 : decode pm_c_addWithin 1 = .ok (.istore_n 3, 1) := by decide +kernel
theorem pm_d_addWithin_2 : decode pm_c_addWithin 2 = .ok (.iload_n 3, 1) := by decide +kernel
theorem pm_d_addWithin_3 : decode pm_c_addWithin 3 = .ok (.aload_n 0, 1) := by decide +kernel
theorem pm_d_addWithin_4 : decode pm_c_addWithin 4 = .ok (.invokevirtual 79, 3) := by decide +kernel
theorem pm_d_addWithin_7 : decode pm_c_addWithin 7 = .ok (.if_icmp .ge 52, 3) := by decide +kernel
theorem pm_d_addWithin_10 : decode pm_c_addWithin 10 = .ok (.iload_n 3, 1) := by decide +kernel
theorem pm_d_addWithin_11 : decode pm_c_addWithin 11 = .ok (.iload_n 1, 1) := by decide +kernel
theorem pm_d_addWithin_12 : decode pm_c_addWithin 12 = .ok (.iconst (-1), 1) := by decide +kernel
theorem pm_d_addWithin_13 : decode pm_c_addWithin 13 = .ok (.ixor, 1) := by decide +kernel
theorem pm_d_addWithin_14 : decode pm_c_addWithin 14 = .ok (.iand, 1) := by decide +kernel
theorem pm_d_addWithin_15 : decode pm_c_addWithin 15 = .ok (.ifCond .ne 38, 3) := by decide +kernel
theorem pm_d_addWithin_18 : decode pm_c_addWithin 18 = .ok (.aload_n 0, 1) := by decide +kernel
theorem pm_d_addWithin_19 : decode pm_c_addWithin 19 = .ok (.getfield 16, 3) := by decide +kernel
theorem pm_d_addWithin_22 : decode pm_c_addWithin 22 = .ok (.iload_n 3, 1) := by decide +kernel
theorem pm_d_addWithin_23 : decode pm_c_addWithin 23 = .ok (.aload_n 0, 1) := by decide +kernel
theorem pm_d_addWithin_24 : decode pm_c_addWithin 24 = .ok (.getfield 16, 3) := by decide +kernel
theorem pm_d_addWithin_27 : decode pm_c_addWithin 27 = .ok (.iload_n 3, 1) := by decide +kernel
theorem pm_d_addWithin_28 : decode pm_c_addWithin 28 = .ok (.iaload, 1) := by decide +kernel
theorem pm_d_addWithin_29 : decode pm_c_addWithin 29 = .ok (.iload_n 1, 1) := by decide +kernel
theorem pm_d_addWithin_30 : decode pm_c_addWithin 30 = .ok (.iload_n 3, 1) := by decide +kernel
theorem pm_d_addWithin_31 : decode pm_c_addWithin 31 = .ok (.iconst (-1), 1) := by decide +kernel
theorem pm_d_addWithin_32 : decode pm_c_addWithin 32 = .ok (.ixor, 1) := by decide +kernel
theorem pm_d_addWithin_33 : decode pm_c_addWithin 33 = .ok (.iand, 1) := by decide +kernel
theorem pm_d_addWithin_34 : decode pm_c_addWithin 34 = .ok (.invokestatic 83, 3) := by decide +kernel
theorem pm_d_addWithin_37 : decode pm_c_addWithin 37 = .ok (.iconst 2, 1) := by decide +kernel
theorem pm_d_addWithin_38 : decode pm_c_addWithin 38 = .ok (.irem, 1) := by decide +kernel
theorem pm_d_addWithin_39 : decode pm_c_addWithin 39 = .ok (.ifCond .ne 7, 3) := by decide +kernel
theorem pm_d_addWithin_42 : decode pm_c_addWithin 42 = .ok (.iload_n 2, 1) := by decide +kernel
theorem pm_d_addWithin_43 : decode pm_c_addWithin 43 = .ok (.goto 5, 3) := by decide +kernel
theorem pm_d_addWithin_46 : decode pm_c_addWithin 46 = .ok (.iload_n 2, 1) := by decide +kernel
theorem pm_d_addWithin_47 : decode pm_c_addWithin 47 = .ok (.ineg, 1) := by decide +kernel
theorem pm_d_addWithin_48 : decode pm_c_addWithin 48 = .ok (.iadd, 1) := by decide +kernel
theorem pm_d_addWithin_49 : decode pm_c_addWithin 49 = .ok (.bipush 7, 2) := by decide +kernel
theorem pm_d_addWithin_51 : decode pm_c_addWithin 51 = .ok (.iand, 1) := by decide +kernel
theorem pm_d_addWithin_52 : decode pm_c_addWithin 52 = .ok (.iastore, 1) := by decide +kernel
theorem pm_d_addWithin_53 : decode pm_c_addWithin 53 = .ok (.iinc 3 1, 3) := by decide +kernel
theorem pm_d_addWithin_56 : decode pm_c_addWithin 56 = .ok (.goto (-54), 3) := by decide +kernel
theorem pm_d_addWithin_59 : decode pm_c_addWithin 59 = .ok (.return_, 1) := by decide +kernel
