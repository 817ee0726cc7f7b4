theorem pm_d_tellPlan_0 : decode pm_c_tellPlan 0 = .ok (.aload_n 0, 1) := by decide +kernel
theorem pm_d_tellPlan_1 : decode pm_c_tellPlan 1 = .ok (.iconst 0, 1) := by decide +kernel
theorem pm_d_tellPlan_2 : decode pm_c_tellPlan 2 = .ok (.putfield 126, 3) := by decide +kernel
theorem pm_d_tellPlan_5 : decode pm_c_tellPlan 5 = .ok (.iload_n 1, 1) := by decide +kernel
theorem pm_d_tellPlan_6 : decode pm_c_tellPlan 6 = .ok (.istore_n 2, 1) := by decide +kernel
theorem pm_d_tellPlan_7 : decode pm_c_tellPlan 7 = .ok (.aload_n 0, 1) := by decide +kernel
theorem pm_d_tellPlan_8 : decode pm_c_tellPlan 8 = .ok (.getfield 33, 3) := by decide +kernel
theorem pm_d_tellPlan_11 : decode pm_c_tellPlan 11 = .ok (.iload_n 2, 1) := by decide +kernel
theorem pm_d_tellPlan_12 : decode pm_c_tellPlan 12 = .ok (.iaload, 1) := by decide +kernel
theorem pm_d_tellPlan_13 : decode pm_c_tellPlan 13 = .ok (.iconst (-1), 1) := by decide +kernel
theorem pm_d_tellPlan_14 : decode pm_c_tellPlan 14 = .ok (.if_icmp .eq 23, 3) := by decide +kernel
theorem pm_d_tellPlan_17 : decode pm_c_tellPlan 17 = .ok (.aload_n 0, 1) := by decide +kernel
theorem pm_d_tellPlan_18 : decode pm_c_tellPlan 18 = .ok (.dup, 1) := by decide +kernel
theorem pm_d_tellPlan_19 : decode pm_c_tellPlan 19 = .ok (.getfield 126, 3) := by decide +kernel
theorem pm_d_tellPlan_22 : decode pm_c_tellPlan 22 = .ok (.iconst 1, 1) := by decide +kernel
theorem pm_d_tellPlan_23 : decode pm_c_tellPlan 23 = .ok (.iadd, 1) := by decide +kernel
theorem pm_d_tellPlan_24 : decode pm_c_tellPlan 24 = .ok (.putfield 126, 3) := by decide +kernel
theorem pm_d_tellPlan_27 : decode pm_c_tellPlan 27 = .ok (.aload_n 0, 1) := by decide +kernel
theorem pm_d_tellPlan_28 : decode pm_c_tellPlan 28 = .ok (.getfield 33, 3) := by decide +kernel
theorem pm_d_tellPlan_31 : decode pm_c_tellPlan 31 = .ok (.iload_n 2, 1) := by decide +kernel
theorem pm_d_tellPlan_32 : decode pm_c_tellPlan 32 = .ok (.iaload, 1) := by decide +kernel
theorem pm_d_tellPlan_33 : decode pm_c_tellPlan 33 = .ok (.istore_n 2, 1) := by decide +kernel
theorem pm_d_tellPlan_34 : decode pm_c_tellPlan 34 = .ok (.goto (-27), 3) := by decide +kernel
theorem pm_d_tellPlan_37 : decode pm_c_tellPlan 37 = .ok (.aload_n 0, 1) := by decide +kernel
theorem pm_d_tellPlan_38 : decode pm_c_tellPlan 38 = .ok (.getfield 126, 3) := by decide +kernel
theorem pm_d_tellPlan_41 : decode pm_c_tellPlan 41 = .ok (.istore_n 2, 1) := by decide +kernel
theorem pm_d_tellPlan_42 : decode pm_c_tellPlan 42 = .ok (.iload_n 1, 1) := by decide +kernel
theorem pm_d_tellPlan_43 : decode pm_c_tellPlan 43 = .ok (.istore_n 3, 1) := by decide +kernel
theorem pm_d_tellPlan_44 : decode pm_c_tellPlan 44 = .ok (.iload_n 2, 1) := by decide +kernel
theorem pm_d_tellPlan_45 : decode pm_c_tellPlan 45 = .ok (.ifCond .le 28, 3) := by decide +kernel
theorem pm_d_tellPlan_48 : decode pm_c_tellPlan 48 = .ok (.iinc 2 (-1), 3) := by decide +kernel
theorem pm_d_tellPlan_51 : decode pm_c_tellPlan 51 = .ok (.aload_n 0, 1) := by decide +kernel
theorem pm_d_tellPlan_52 : decode pm_c_tellPlan 52 = .ok (.getfield 39, 3) := by decide +kernel
theorem pm_d_tellPlan_55 : decode pm_c_tellPlan 55 = .ok (.iload_n 2, 1) := by decide +kernel
theorem pm_d_tellPlan_56 : decode pm_c_tellPlan 56 = .ok (.aload_n 0, 1) := by decide +kernel
theorem pm_d_tellPlan_57 : decode pm_c_tellPlan 57 = .ok (.getfield 36, 3) := by decide +kernel
theorem pm_d_tellPlan_60 : decode pm_c_tellPlan 60 = .ok (.iload_n 3, 1) := by decide +kernel
theorem pm_d_tellPlan_61 : decode pm_c_tellPlan 61 = .ok (.iaload, 1) := by decide +kernel
theorem pm_d_tellPlan_62 : decode pm_c_tellPlan 62 = .ok (.iastore, 1) := by decide +kernel
theorem pm_d_tellPlan_63 : decode pm_c_tellPlan 63 = .ok (.aload_n 0, 1) := by decide +kernel
theorem pm_d_tellPlan_64 : decode pm_c_tellPlan 64 = .ok (.getfield 33, 3) := by decide +kernel
theorem pm_d_tellPlan_67 : decode pm_c_tellPlan 67 = .ok (.iload_n 3, 1) := by decide +kernel
theorem pm_d_tellPlan_68 : decode pm_c_tellPlan 68 = .ok (.iaload, 1) := by decide +kernel
theorem pm_d_tellPlan_69 : decode pm_c_tellPlan 69 = .ok (.istore_n 3, 1) := by decide +kernel
theorem pm_d_tellPlan_70 : decode pm_c_tellPlan 70 = .ok (.goto (-26), 3) := by decide +kernel
theorem pm_d_tellPlan_73 : decode pm_c_tellPlan 73 = .ok (.return_, 1) := by decide +kernel
theorem pm_d_first_0 : decode pm_c_first 0 = .ok (.iconst 0, 1) := by decide +kernel
theorem pm_d_first_1 : decode pm_c_first 1 = .ok (.istore_n 1, 1) := by decide +kernel
theorem pm_d_first_2 : decode pm_c_first 2 = .ok (.iconst 0, 1) := by decide +kernel
theorem pm_d_first_3 : decode pm_c_first 3 = .ok (.istore_n 2, 1) := by decide +kernel
theorem pm_d_first_4 : decode pm_c_first 4 = .ok (.iload_n 2, 1) := by decide +kernel
theorem pm_d_first_5 : decode pm_c_first 5 = .ok (.aload_n 0, 1) := by decide +kernel
theorem pm_d_first_6 : decode pm_c_first 6 = .ok (.getfield 56, 3) := by decide +kernel
theorem pm_d_first_9 : decode pm_c_first 9 = .ok (.if_icmp .ge 22, 3) := by decide +kernel
theorem pm_d_first_12 : decode pm_c_first 12 = .ok (.iload_n 1, 1) := by decide +kernel
theorem pm_d_first_13 : decode pm_c_first 13 = .ok (.iconst 1, 1) := by decide +kernel
theorem pm_d_first_14 : decode pm_c_first 14 = .ok (.iload_n 2, 1) := by decide +kernel
theorem pm_d_first_15 : decode pm_c_first 15 = .ok (.ishl, 1) := by decide +kernel
theorem pm_d_first_16 : decode pm_c_first 16 = .ok (.aload_n 0, 1) := by decide +kernel
theorem pm_d_first_17 : decode pm_c_first 17 = .ok (.getfield 56, 3) := by decide +kernel
theorem pm_d_first_20 : decode pm_c_first 20 = .ok (.iload_n 2, 1) := by decide +kernel
theorem pm_d_first_21 : decode pm_c_first 21 = .ok (.imul, 1) := by decide +kernel
theorem pm_d_first_22 : decode pm_c_first 22 = .ok (.ishl, 1) := by decide +kernel
theorem pm_d_first_23 : decode pm_c_first 23 = .ok (.ior, 1) := by decide +kernel
theorem pm_d_first_24 : decode pm_c_first 24 = .ok (.istore_n 1, 1) := by decide +kernel
theorem pm_d_first_25 : decode pm_c_first 25 = .ok (.iinc 2 1, 3) := by decide +kernel
theorem pm_d_first_28 : decode pm_c_first 28 = .ok (.goto (-24), 3) := by decide +kernel
theorem pm_d_first_31 : decode pm_c_first 31 = .ok (.iload_n 1, 1) := by decide +kernel
theorem pm_d_first_32 : decode pm_c_first 32 = .ok (.ireturn, 1) := by decide +kernel
theorem pm_d_goal_0 : decode pm_c_goal 0 = .ok (.iconst 0, 1) := by decide +kernel
theorem pm_d_goal_1 : decode pm_c_goal 1 = .ok (.istore_n 1, 1) := by decide +kernel
theorem pm_d_goal_2 : decode pm_c_goal 2 = .ok (.iconst 0, 1) := by decide +kernel
theorem pm_d_goal_3 : decode pm_c_goal 3 = .ok (.istore_n 2, 1) := by decide +kernel
theorem pm_d_goal_4 : decode pm_c_goal 4 = .ok (.iload_n 2, 1) := by decide +kernel
theorem pm_d_goal_5 : decode pm_c_goal 5 = .ok (.aload_n 0, 1) := by decide +kernel
theorem pm_d_goal_6 : decode pm_c_goal 6 = .ok (.getfield 56, 3) := by decide +kernel
theorem pm_d_goal_9 : decode pm_c_goal 9 = .ok (.if_icmp .ge 25, 3) := by decide +kernel
theorem pm_d_goal_12 : decode pm_c_goal 12 = .ok (.iload_n 1, 1) := by decide +kernel
theorem pm_d_goal_13 : decode pm_c_goal 13 = .ok (.aload_n 0, 1) := by decide +kernel
theorem pm_d_goal_14 : decode pm_c_goal 14 = .ok (.getfield 7, 3) := by decide +kernel
theorem pm_d_goal_17 : decode pm_c_goal 17 = .ok (.iload_n 2, 1) := by decide +kernel
theorem pm_d_goal_18 : decode pm_c_goal 18 = .ok (.iaload, 1) := by decide +kernel
theorem pm_d_goal_19 : decode pm_c_goal 19 = .ok (.aload_n 0, 1) := by decide +kernel
theorem pm_d_goal_20 : decode pm_c_goal 20 = .ok (.getfield 56, 3) := by decide +kernel
theorem pm_d_goal_23 : decode pm_c_goal 23 = .ok (.iload_n 2, 1) := by decide +kernel
theorem pm_d_goal_24 : decode pm_c_goal 24 = .ok (.imul, 1) := by decide +kernel
theorem pm_d_goal_25 : decode pm_c_goal 25 = .ok (.ishl, 1) := by decide +kernel
theorem pm_d_goal_26 : decode pm_c_goal 26 = .ok (.ior, 1) := by decide +kernel
theorem pm_d_goal_27 : decode pm_c_goal 27 = .ok (.istore_n 1, 1) := by decide +kernel
theorem pm_d_goal_28 : decode pm_c_goal 28 = .ok (.iinc 2 1, 3) := by decide +kernel
theorem pm_d_goal_31 : decode pm_c_goal 31 = .ok (.goto (-27), 3) := by decide +kernel
theorem pm_d_goal_34 : decode pm_c_goal 34 = .ok (.iload_n 1, 1) := by decide +kernel
theorem pm_d_goal_35 : decode pm_c_goal 35 = .ok (.ireturn, 1) := by decide +kernel
theorem pm_d_partOf_0 : decode pm_c_partOf 0 = .ok (.iload_n 1, 1) := by decide +kernel
theorem pm_d_partOf_1 : decode pm_c_partOf 1 = .ok (.aload_n 0, 1) := by decide +kernel
theorem pm_d_partOf_2 : decode pm_c_partOf 2 = .ok (.getfield 56, 3) := by decide +kernel
theorem pm_d_partOf_5 : decode pm_c_partOf 5 = .ok (.iload_n 2, 1) := by decide +kernel
theorem pm_d_partOf_6 : decode pm_c_partOf 6 = .ok (.imul, 1) := by decide +kernel
theorem pm_d_partOf_7 : decode pm_c_partOf 7 = .ok (.ishr, 1) := by decide +kernel
theorem pm_d_partOf_8 : decode pm_c_partOf 8 = .ok (.aload_n 0, 1) := by decide +kernel
theorem pm_d_partOf_9 : decode pm_c_partOf 9 = .ok (.invokevirtual 79, 3) := by decide +kernel
theorem pm_d_partOf_12 : decode pm_c_partOf 12 = .ok (.iconst 1, 1) := by decide +kernel
theorem pm_d_partOf_13 : decode pm_c_partOf 13 = .ok (.isub, 1) := by decide +kernel
theorem pm_d_partOf_14 : decode pm_c_partOf 14 = .ok (.iand, 1) := by decide +kernel
theorem pm_d_partOf_15 : decode pm_c_partOf 15 = .ok (.ireturn, 1) := by decide +kernel
theorem pm_d_findLinear_0 : decode pm_c_findLinear 0 = .ok (.aload_n 0, 1) := by decide +kernel
theorem pm_d_findLinear_1 : decode pm_c_findLinear 1 = .ok (.getfield 62, 3) := by decide +kernel
theorem pm_d_findLinear_4 : decode pm_c_findLinear 4 = .ok (.ifCond .eq 4, 3) := by decide +kernel
theorem pm_d_findLinear_7 : decode pm_c_findLinear 7 = .ok (.return_, 1) := by decide +kernel
theorem pm_d_findLinear_8 : decode pm_c_findLinear 8 = .ok (.aload_n 0, 1) := by decide +kernel
theorem pm_d_findLinear_9 : decode pm_c_findLinear 9 = .ok (.aload_n 0, 1) := by decide +kernel
theorem pm_d_findLinear_10 : decode pm_c_findLinear 10 = .ok (.invokevirtual 129, 3) := by decide +kernel
theorem pm_d_findLinear_13 : decode pm_c_findLinear 13 = .ok (.invokevirtual 132, 3) := by decide +kernel
theorem pm_d_findLinear_16 : decode pm_c_findLinear 16 = .ok (.iconst 0, 1) := by decide +kernel
theorem pm_d_findLinear_17 : decode pm_c_findLinear 17 = .ok (.istore_n 1, 1) := by decide +kernel
theorem pm_d_findLinear_18 : decode pm_c_findLinear 18 = .ok (.aload_n 0, 1) := by decide +kernel
theorem pm_d_findLinear_19 : decode pm_c_findLinear 19 = .ok (.getfield 30, 3) := by decide +kernel
theorem pm_d_findLinear_22 : decode pm_c_findLinear 22 = .ok (.iload_n 1, 1) := by decide +kernel
theorem pm_d_findLinear_23 : decode pm_c_findLinear 23 = .ok (.iaload, 1) := by decide +kernel
theorem pm_d_findLinear_24 : decode pm_c_findLinear 24 = .ok (.aload_n 0, 1) := by decide +kernel
theorem pm_d_findLinear_25 : decode pm_c_findLinear 25 = .ok (.invokevirtual 135, 3) := by decide +kernel
theorem pm_d_findLinear_28 : decode pm_c_findLinear 28 = .ok (.if_icmp .eq 87, 3) := by decide +kernel
theorem pm_d_findLinear_31 : decode pm_c_findLinear 31 = .ok (.iconst 0, 1) := by decide +kernel
theorem pm_d_findLinear_32 : decode pm_c_findLinear 32 = .ok (.istore_n 2, 1) := by decide +kernel
theorem pm_d_findLinear_33 : decode pm_c_findLinear 33 = .ok (.iload_n 2, 1) := by decide +kernel
theorem pm_d_findLinear_34 : decode pm_c_findLinear 34 = .ok (.bipush 16, 2) := by decide +kernel
theorem pm_d_findLinear_36 : decode pm_c_findLinear 36 = .ok (.if_icmp .ge 73, 3) := by decide +kernel
theorem pm_d_findLinear_39 : decode pm_c_findLinear 39 = .ok (.iload_n 2, 1) := by decide +kernel
theorem pm_d_findLinear_40 : decode pm_c_findLinear 40 = .ok (.iconst 4, 1) := by decide +kernel
theorem pm_d_findLinear_41 : decode pm_c_findLinear 41 = .ok (.idiv, 1) := by decide +kernel
theorem pm_d_findLinear_42 : decode pm_c_findLinear 42 = .ok (.istore_n 3, 1) := by decide +kernel
theorem pm_d_findLinear_43 : decode pm_c_findLinear 43 = .ok (.iload_n 2, 1) := by decide +kernel
theorem pm_d_findLinear_44 : decode pm_c_findLinear 44 = .ok (.iconst 4, 1) := by decide +kernel
theorem pm_d_findLinear_45 : decode pm_c_findLinear 45 = .ok (.irem, 1) := by decide +kernel
theorem pm_d_findLinear_46 : decode pm_c_findLinear 46 = .ok (.istore 4, 2) := by decide +kernel
theorem pm_d_findLinear_48 : decode pm_c_findLinear 48 = .ok (.iload_n 3, 1) := by decide +kernel
theorem pm_d_findLinear_49 : decode pm_c_findLinear 49 = .ok (.iload 4, 2) := by decide +kernel
theorem pm_d_findLinear_51 : decode pm_c_findLinear 51 = .ok (.if_icmp .eq 52, 3) := by decide +kernel
theorem pm_d_findLinear_54 : decode pm_c_findLinear 54 = .ok (.iload_n 3, 1) := by decide +kernel
theorem pm_d_findLinear_55 : decode pm_c_findLinear 55 = .ok (.aload_n 0, 1) := by decide +kernel
theorem pm_d_findLinear_56 : decode pm_c_findLinear 56 = .ok (.getfield 56, 3) := by decide +kernel
theorem pm_d_findLinear_59 : decode pm_c_findLinear 59 = .ok (.if_icmp .ge 44, 3) := by decide +kernel
theorem pm_d_findLinear_62 : decode pm_c_findLinear 62 = .ok (.iload 4, 2) := by decide +kernel
theorem pm_d_findLinear_64 : decode pm_c_findLinear 64 = .ok (.aload_n 0, 1) := by decide +kernel
theorem pm_d_findLinear_65 : decode pm_c_findLinear 65 = .ok (.getfield 56, 3) := by decide +kernel
theorem pm_d_findLinear_68 : decode pm_c_findLinear 68 = .ok (.if_icmp .ge 35, 3) := by decide +kernel
theorem pm_d_findLinear_71 : decode pm_c_findLinear 71 = .ok (.aload_n 0, 1) := by decide +kernel
theorem pm_d_findLinear_72 : decode pm_c_findLinear 72 = .ok (.aload_n 0, 1) := by decide +kernel
theorem pm_d_findLinear_73 : decode pm_c_findLinear 73 = .ok (.getfield 30, 3) := by decide +kernel
theorem pm_d_findLinear_76 : decode pm_c_findLinear 76 = .ok (.iload_n 1, 1) := by decide +kernel
theorem pm_d_findLinear_77 : decode pm_c_findLinear 77 = .ok (.iaload, 1) := by decide +kernel
theorem pm_d_findLinear_78 : decode pm_c_findLinear 78 = .ok (.aload_n 0, 1) := by decide +kernel
theorem pm_d_findLinear_79 : decode pm_c_findLinear 79 = .ok (.aload_n 0, 1) := by decide +kernel
theorem pm_d_findLinear_80 : decode pm_c_findLinear 80 = .ok (.getfield 30, 3) := by decide +kernel
theorem pm_d_findLinear_83 : decode pm_c_findLinear 83 = .ok (.iload_n 1, 1) := by decide +kernel
theorem pm_d_findLinear_84 : decode pm_c_findLinear 84 = .ok (.iaload, 1) := by decide +kernel
theorem pm_d_findLinear_85 : decode pm_c_findLinear 85 = .ok (.iload_n 3, 1) := by decide +kernel
theorem pm_d_findLinear_86 : decode pm_c_findLinear 86 = .ok (.invokevirtual 138, 3) := by decide +kernel
theorem pm_d_findLinear_89 : decode pm_c_findLinear 89 = .ok (.aload_n 0, 1) := by decide +kernel
theorem pm_d_findLinear_90 : decode pm_c_findLinear 90 = .ok (.getfield 56, 3) := by decide +kernel
theorem pm_d_findLinear_93 : decode pm_c_findLinear 93 = .ok (.iload 4, 2) := by decide +kernel
theorem pm_d_findLinear_95 : decode pm_c_findLinear 95 = .ok (.imul, 1) := by decide +kernel
theorem pm_d_findLinear_96 : decode pm_c_findLinear 96 = .ok (.ishl, 1) := by decide +kernel
theorem pm_d_findLinear_97 : decode pm_c_findLinear 97 = .ok (.ixor, 1) := by decide +kernel
theorem pm_d_findLinear_98 : decode pm_c_findLinear 98 = .ok (.iload_n 1, 1) := by decide +kernel
theorem pm_d_findLinear_99 : decode pm_c_findLinear 99 = .ok (.iload_n 2, 1) := by decide +kernel
theorem pm_d_findLinear_100 : decode pm_c_findLinear 100 = .ok (.invokevirtual 122, 3) := by decide +kernel
theorem pm_d_findLinear_103 : decode pm_c_findLinear 103 = .ok (.iinc 2 1, 3) := by decide +kernel
theorem pm_d_findLinear_106 : decode pm_c_findLinear 106 = .ok (.goto (-73), 3) := by decide +kernel
theorem pm_d_findLinear_109 : decode pm_c_findLinear 109 = .ok (.iinc 1 1, 3) := by decide +kernel
theorem pm_d_findLinear_112 : decode pm_c_findLinear 112 = .ok (.goto (-94), 3) := by decide +kernel
theorem pm_d_findLinear_115 : decode pm_c_findLinear 115 = .ok (.aload_n 0, 1) := by decide +kernel
theorem pm_d_findLinear_116 : decode pm_c_findLinear 116 = .ok (.iload_n 1, 1) := by decide +kernel
theorem pm_d_findLinear_117 : decode pm_c_findLinear 117 = .ok (.invokevirtual 141, 3) := by decide +kernel
theorem pm_d_findLinear_120 : decode pm_c_findLinear 120 = .ok (.aload_n 0, 1) := by decide +kernel
theorem pm_d_findLinear_121 : decode pm_c_findLinear 121 = .ok (.aload_n 0, 1) := by decide +kernel
theorem pm_d_findLinear_122 : decode pm_c_findLinear 122 = .ok (.getfield 126, 3) := by decide +kernel
theorem pm_d_findLinear_125 : decode pm_c_findLinear 125 = .ok (.putfield 144, 3) := by decide +kernel
theorem pm_d_findLinear_128 : decode pm_c_findLinear 128 = .ok (.iconst 0, 1) := by decide +kernel
theorem pm_d_findLinear_129 : decode pm_c_findLinear 129 = .ok (.istore_n 2, 1) := by decide +kernel
theorem pm_d_findLinear_130 : decode pm_c_findLinear 130 = .ok (.iload_n 2, 1) := by decide +kernel
theorem pm_d_findLinear_131 : decode pm_c_findLinear 131 = .ok (.aload_n 0, 1) := by decide +kernel
theorem pm_d_findLinear_132 : decode pm_c_findLinear 132 = .ok (.getfield 126, 3) := by decide +kernel
theorem pm_d_findLinear_135 : decode pm_c_findLinear 135 = .ok (.if_icmp .ge 21, 3) := by decide +kernel
theorem pm_d_findLinear_138 : decode pm_c_findLinear 138 = .ok (.aload_n 0, 1) := by decide +kernel
theorem pm_d_findLinear_139 : decode pm_c_findLinear 139 = .ok (.getfield 42, 3) := by decide +kernel
theorem pm_d_findLinear_142 : decode pm_c_findLinear 142 = .ok (.iload_n 2, 1) := by decide +kernel
theorem pm_d_findLinear_143 : decode pm_c_findLinear 143 = .ok (.aload_n 0, 1) := by decide +kernel
theorem pm_d_findLinear_144 : decode pm_c_findLinear 144 = .ok (.getfield 39, 3) := by decide +kernel
theorem pm_d_findLinear_147 : decode pm_c_findLinear 147 = .ok (.iload_n 2, 1) := by decide +kernel
theorem pm_d_findLinear_148 : decode pm_c_findLinear 148 = .ok (.iaload, 1) := by decide +kernel
theorem pm_d_findLinear_149 : decode pm_c_findLinear 149 = .ok (.iastore, 1) := by decide +kernel
theorem pm_d_findLinear_150 : decode pm_c_findLinear 150 = .ok (.iinc 2 1, 3) := by decide +kernel
theorem pm_d_findLinear_153 : decode pm_c_findLinear 153 = .ok (.goto (-23), 3) := by decide +kernel
theorem pm_d_findLinear_156 : decode pm_c_findLinear 156 = .ok (.aload_n 0, 1) := by decide +kernel
theorem pm_d_findLinear_157 : decode pm_c_findLinear 157 = .ok (.iconst 1, 1) := by decide +kernel
theorem pm_d_findLinear_158 : decode pm_c_findLinear 158 = .ok (.putfield 62, 3) := by decide +kernel
theorem pm_d_findLinear_161 : decode pm_c_findLinear 161 = .ok (.return_, 1) := by decide +kernel
theorem pm_d_had_0 : decode pm_c_had 0 = .ok (.iconst 0, 1) := by decide +kernel
theorem pm_d_had_1 : decode pm_c_had 1 = .ok (.istore_n 2, 1) := by decide +kernel
theorem pm_d_had_2 : decode pm_c_had 2 = .ok (.iconst 0, 1) := by decide +kernel
theorem pm_d_had_3 : decode pm_c_had 3 = .ok (.istore_n 3, 1) := by decide +kernel
theorem pm_d_had_4 : decode pm_c_had 4 = .ok (.iload_n 3, 1) := by decide +kernel
theorem pm_d_had_5 : decode pm_c_had 5 = .ok (.aload_n 0, 1) := by decide +kernel
theorem pm_d_had_6 : decode pm_c_had 6 = .ok (.getfield 56, 3) := by decide +kernel
theorem pm_d_had_9 : decode pm_c_had 9 = .ok (.if_icmp .ge 22, 3) := by decide +kernel
theorem pm_d_had_12 : decode pm_c_had 12 = .ok (.iload_n 2, 1) := by decide +kernel
theorem pm_d_had_13 : decode pm_c_had 13 = .ok (.iconst 1, 1) := by decide +kernel
theorem pm_d_had_14 : decode pm_c_had 14 = .ok (.aload_n 0, 1) := by decide +kernel
theorem pm_d_had_15 : decode pm_c_had 15 = .ok (.iload_n 1, 1) := by decide +kernel
theorem pm_d_had_16 : decode pm_c_had 16 = .ok (.iload_n 3, 1) := by decide +kernel
theorem pm_d_had_17 : decode pm_c_had 17 = .ok (.invokevirtual 138, 3) := by decide +kernel
theorem pm_d_had_20 : decode pm_c_had 20 = .ok (.iconst 1, 1) := by decide +kernel
theorem pm_d_had_21 : decode pm_c_had 21 = .ok (.isub, 1) := by decide +kernel
theorem pm_d_had_22 : decode pm_c_had 22 = .ok (.ishl, 1) := by decide +kernel
theorem pm_d_had_23 : decode pm_c_had 23 = .ok (.ior, 1) := by decide +kernel
theorem pm_d_had_24 : decode pm_c_had 24 = .ok (.istore_n 2, 1) := by decide +kernel
theorem pm_d_had_25 : decode pm_c_had 25 = .ok (.iinc 3 1, 3) := by decide +kernel
theorem pm_d_had_28 : decode pm_c_had 28 = .ok (.goto (-24), 3) := by decide +kernel
theorem pm_d_had_31 : decode pm_c_had 31 = .ok (.iload_n 2, 1) := by decide +kernel
theorem pm_d_had_32 : decode pm_c_had 32 = .ok (.ireturn, 1) := by decide +kernel
theorem pm_d_findNetwork_0 : decode pm_c_findNetwork 0 = .ok (.aload_n 0, 1) := by decide +kernel
theorem pm_d_findNetwork_1 : decode pm_c_findNetwork 1 = .ok (.getfield 69, 3) := by decide +kernel
theorem pm_d_findNetwork_4 : decode pm_c_findNetwork 4 = .ok (.ifCond .eq 4, 3) := by decide +kernel
theorem pm_d_findNetwork_7 : decode pm_c_findNetwork 7 = .ok (.return_, 1) := by decide +kernel
theorem pm_d_findNetwork_8 : decode pm_c_findNetwork 8 = .ok (.aload_n 0, 1) := by decide +kernel
theorem pm_d_findNetwork_9 : decode pm_c_findNetwork 9 = .ok (.invokevirtual 116, 3) := by decide +kernel
theorem pm_d_findNetwork_12 : decode pm_c_findNetwork 12 = .ok (.iconst 0, 1) := by decide +kernel
theorem pm_d_findNetwork_13 : decode pm_c_findNetwork 13 = .ok (.istore_n 1, 1) := by decide +kernel
theorem pm_d_findNetwork_14 : decode pm_c_findNetwork 14 = .ok (.iconst 1, 1) := by decide +kernel
theorem pm_d_findNetwork_15 : decode pm_c_findNetwork 15 = .ok (.istore_n 2, 1) := by decide +kernel
theorem pm_d_findNetwork_16 : decode pm_c_findNetwork 16 = .ok (.iload_n 2, 1) := by decide +kernel
theorem pm_d_findNetwork_17 : decode pm_c_findNetwork 17 = .ok (.aload_n 0, 1) := by decide +kernel
theorem pm_d_findNetwork_18 : decode pm_c_findNetwork 18 = .ok (.invokevirtual 79, 3) := by decide +kernel
theorem pm_d_findNetwork_21 : decode pm_c_findNetwork 21 = .ok (.if_icmp .ge 30, 3) := by decide +kernel
theorem pm_d_findNetwork_24 : decode pm_c_findNetwork 24 = .ok (.iload_n 1, 1) := by decide +kernel
theorem pm_d_findNetwork_25 : decode pm_c_findNetwork 25 = .ok (.aload_n 0, 1) := by decide +kernel
theorem pm_d_findNetwork_26 : decode pm_c_findNetwork 26 = .ok (.getfield 19, 3) := by decide +kernel
theorem pm_d_findNetwork_29 : decode pm_c_findNetwork 29 = .ok (.iload_n 2, 1) := by decide +kernel
theorem pm_d_findNetwork_30 : decode pm_c_findNetwork 30 = .ok (.iaload, 1) := by decide +kernel
theorem pm_d_findNetwork_31 : decode pm_c_findNetwork 31 = .ok (.ifCond .ne 7, 3) := by decide +kernel
theorem pm_d_findNetwork_34 : decode pm_c_findNetwork 34 = .ok (.iconst 0, 1) := by decide +kernel
theorem pm_d_findNetwork_35 : decode pm_c_findNetwork 35 = .ok (.goto 8, 3) := by decide +kernel
theorem pm_d_findNetwork_38 : decode pm_c_findNetwork 38 = .ok (.iconst 1, 1) := by decide +kernel
theorem pm_d_findNetwork_39 : decode pm_c_findNetwork 39 = .ok (.iload_n 2, 1) := by decide +kernel
theorem pm_d_findNetwork_40 : decode pm_c_findNetwork 40 = .ok (.iconst 1, 1) := by decide +kernel
theorem pm_d_findNetwork_41 : decode pm_c_findNetwork 41 = .ok (.isub, 1) := by decide +kernel
theorem pm_d_findNetwork_42 : decode pm_c_findNetwork 42 = .ok (.ishl, 1) := by decide +kernel
theorem pm_d_findNetwork_43 : decode pm_c_findNetwork 43 = .ok (.ior, 1) := by decide +kernel
theorem pm_d_findNetwork_44 : decode pm_c_findNetwork 44 = .ok (.istore_n 1, 1) := by decide +kernel
theorem pm_d_findNetwork_45 : decode pm_c_findNetwork 45 = .ok (.iinc 2 1, 3) := by decide +kernel
theorem pm_d_findNetwork_48 : decode pm_c_findNetwork 48 = .ok (.goto (-32), 3) := by decide +kernel
theorem pm_d_findNetwork_51 : decode pm_c_findNetwork 51 = .ok (.aload_n 0, 1) := by decide +kernel
theorem pm_d_findNetwork_52 : decode pm_c_findNetwork 52 = .ok (.aload_n 0, 1) := by decide +kernel
theorem pm_d_findNetwork_53 : decode pm_c_findNetwork 53 = .ok (.invokevirtual 129, 3) := by decide +kernel
theorem pm_d_findNetwork_56 : decode pm_c_findNetwork 56 = .ok (.bipush 7, 2) := by decide +kernel
theorem pm_d_findNetwork_58 : decode pm_c_findNetwork 58 = .ok (.ishl, 1) := by decide +kernel
theorem pm_d_findNetwork_59 : decode pm_c_findNetwork 59 = .ok (.aload_n 0, 1) := by decide +kernel
theorem pm_d_findNetwork_60 : decode pm_c_findNetwork 60 = .ok (.aload_n 0, 1) := by decide +kernel
theorem pm_d_findNetwork_61 : decode pm_c_findNetwork 61 = .ok (.invokevirtual 129, 3) := by decide +kernel
theorem pm_d_findNetwork_64 : decode pm_c_findNetwork 64 = .ok (.invokevirtual 147, 3) := by decide +kernel
theorem pm_d_findNetwork_67 : decode pm_c_findNetwork 67 = .ok (.iload_n 1, 1) := by decide +kernel
theorem pm_d_findNetwork_68 : decode pm_c_findNetwork 68 = .ok (.iand, 1) := by decide +kernel
theorem pm_d_findNetwork_69 : decode pm_c_findNetwork 69 = .ok (.ior, 1) := by decide +kernel
theorem pm_d_findNetwork_70 : decode pm_c_findNetwork 70 = .ok (.invokevirtual 132, 3) := by decide +kernel
theorem pm_d_findNetwork_73 : decode pm_c_findNetwork 73 = .ok (.aload_n 0, 1) := by decide +kernel
theorem pm_d_findNetwork_74 : decode pm_c_findNetwork 74 = .ok (.invokevirtual 135, 3) := by decide +kernel
theorem pm_d_findNetwork_77 : decode pm_c_findNetwork 77 = .ok (.bipush 7, 2) := by decide +kernel
theorem pm_d_findNetwork_79 : decode pm_c_findNetwork 79 = .ok (.ishl, 1) := by decide +kernel
theorem pm_d_findNetwork_80 : decode pm_c_findNetwork 80 = .ok (.iload_n 1, 1) := by decide +kernel
theorem pm_d_findNetwork_81 : decode pm_c_findNetwork 81 = .ok (.ior, 1) := by decide +kernel
theorem pm_d_findNetwork_82 : decode pm_c_findNetwork 82 = .ok (.istore_n 2, 1) := by decide +kernel
theorem pm_d_findNetwork_83 : decode pm_c_findNetwork 83 = .ok (.iconst 0, 1) := by decide +kernel
theorem pm_d_findNetwork_84 : decode pm_c_findNetwork 84 = .ok (.istore_n 3, 1) := by decide +kernel
theorem pm_d_findNetwork_85 : decode pm_c_findNetwork 85 = .ok (.aload_n 0, 1) := by decide +kernel
theorem pm_d_findNetwork_86 : decode pm_c_findNetwork 86 = .ok (.getfield 30, 3) := by decide +kernel
theorem pm_d_findNetwork_89 : decode pm_c_findNetwork 89 = .ok (.iload_n 3, 1) := by decide +kernel
theorem pm_d_findNetwork_90 : decode pm_c_findNetwork 90 = .ok (.iaload, 1) := by decide +kernel
theorem pm_d_findNetwork_91 : decode pm_c_findNetwork 91 = .ok (.iload_n 2, 1) := by decide +kernel
theorem pm_d_findNetwork_92 : decode pm_c_findNetwork 92 = .ok (.if_icmp .eq 128, 3) := by decide +kernel
theorem pm_d_findNetwork_95 : decode pm_c_findNetwork 95 = .ok (.aload_n 0, 1) := by decide +kernel
theorem pm_d_findNetwork_96 : decode pm_c_findNetwork 96 = .ok (.getfield 30, 3) := by decide +kernel
theorem pm_d_findNetwork_99 : decode pm_c_findNetwork 99 = .ok (.iload_n 3, 1) := by decide +kernel
theorem pm_d_findNetwork_100 : decode pm_c_findNetwork 100 = .ok (.iaload, 1) := by decide +kernel
theorem pm_d_findNetwork_101 : decode pm_c_findNetwork 101 = .ok (.bipush 7, 2) := by decide +kernel
theorem pm_d_findNetwork_103 : decode pm_c_findNetwork 103 = .ok (.ishr, 1) := by decide +kernel
theorem pm_d_findNetwork_104 : decode pm_c_findNetwork 104 = .ok (.istore 4, 2) := by decide +kernel
theorem pm_d_findNetwork_106 : decode pm_c_findNetwork 106 = .ok (.iconst 0, 1) := by decide +kernel
theorem pm_d_findNetwork_107 : decode pm_c_findNetwork 107 = .ok (.istore 5, 2) := by decide +kernel
theorem pm_d_findNetwork_109 : decode pm_c_findNetwork 109 = .ok (.iload 5, 2) := by decide +kernel
theorem pm_d_findNetwork_111 : decode pm_c_findNetwork 111 = .ok (.bipush 16, 2) := by decide +kernel
theorem pm_d_findNetwork_113 : decode pm_c_findNetwork 113 = .ok (.if_icmp .ge 101, 3) := by decide +kernel
theorem pm_d_findNetwork_116 : decode pm_c_findNetwork 116 = .ok (.iload 5, 2) := by decide +kernel
theorem pm_d_findNetwork_118 : decode pm_c_findNetwork 118 = .ok (.iconst 4, 1) := by decide +kernel
theorem pm_d_findNetwork_119 : decode pm_c_findNetwork 119 = .ok (.idiv, 1) := by decide +kernel
theorem pm_d_findNetwork_120 : decode pm_c_findNetwork 120 = .ok (.istore 6, 2) := by decide +kernel
theorem pm_d_findNetwork_122 : decode pm_c_findNetwork 122 = .ok (.iload 5, 2) := by decide +kernel
theorem pm_d_findNetwork_124 : decode pm_c_findNetwork 124 = .ok (.iconst 4, 1) := by decide +kernel
theorem pm_d_findNetwork_125 : decode pm_c_findNetwork 125 = .ok (.irem, 1) := by decide +kernel
theorem pm_d_findNetwork_126 : decode pm_c_findNetwork 126 = .ok (.istore 7, 2) := by decide +kernel
theorem pm_d_findNetwork_128 : decode pm_c_findNetwork 128 = .ok (.iload 6, 2) := by decide +kernel
theorem pm_d_findNetwork_130 : decode pm_c_findNetwork 130 = .ok (.iload 7, 2) := by decide +kernel
theorem pm_d_findNetwork_132 : decode pm_c_findNetwork 132 = .ok (.if_icmp .eq 76, 3) := by decide +kernel
theorem pm_d_findNetwork_135 : decode pm_c_findNetwork 135 = .ok (.iload 6, 2) := by decide +kernel
theorem pm_d_findNetwork_137 : decode pm_c_findNetwork 137 = .ok (.aload_n 0, 1) := by decide +kernel
theorem pm_d_findNetwork_138 : decode pm_c_findNetwork 138 = .ok (.getfield 56, 3) := by decide +kernel
theorem pm_d_findNetwork_141 : decode pm_c_findNetwork 141 = .ok (.if_icmp .ge 67, 3) := by decide +kernel
theorem pm_d_findNetwork_144 : decode pm_c_findNetwork 144 = .ok (.iload 7, 2) := by decide +kernel
theorem pm_d_findNetwork_146 : decode pm_c_findNetwork 146 = .ok (.aload_n 0, 1) := by decide +kernel
theorem pm_d_findNetwork_147 : decode pm_c_findNetwork 147 = .ok (.getfield 56, 3) := by decide +kernel
theorem pm_d_findNetwork_150 : decode pm_c_findNetwork 150 = .ok (.if_icmp .lt 6, 3) := by decide +kernel
theorem pm_d_findNetwork_153 : decode pm_c_findNetwork 153 = .ok (.goto 55, 3) := by decide +kernel
theorem pm_d_findNetwork_156 : decode pm_c_findNetwork 156 = .ok (.iload 4, 2) := by decide +kernel
theorem pm_d_findNetwork_158 : decode pm_c_findNetwork 158 = .ok (.aload_n 0, 1) := by decide +kernel
theorem pm_d_findNetwork_159 : decode pm_c_findNetwork 159 = .ok (.iload 4, 2) := by decide +kernel
theorem pm_d_findNetwork_161 : decode pm_c_findNetwork 161 = .ok (.iload 6, 2) := by decide +kernel
theorem pm_d_findNetwork_163 : decode pm_c_findNetwork 163 = .ok (.invokevirtual 138, 3) := by decide +kernel
theorem pm_d_findNetwork_166 : decode pm_c_findNetwork 166 = .ok (.aload_n 0, 1) := by decide +kernel
theorem pm_d_findNetwork_167 : decode pm_c_findNetwork 167 = .ok (.getfield 56, 3) := by decide +kernel
theorem pm_d_findNetwork_170 : decode pm_c_findNetwork 170 = .ok (.iload 7, 2) := by decide +kernel
theorem pm_d_findNetwork_172 : decode pm_c_findNetwork 172 = .ok (.imul, 1) := by decide +kernel
theorem pm_d_findNetwork_173 : decode pm_c_findNetwork 173 = .ok (.ishl, 1) := by decide +kernel
theorem pm_d_findNetwork_174 : decode pm_c_findNetwork 174 = .ok (.ixor, 1) := by decide +kernel
theorem pm_d_findNetwork_175 : decode pm_c_findNetwork 175 = .ok (.istore 8, 2) := by decide +kernel
theorem pm_d_findNetwork_177 : decode pm_c_findNetwork 177 = .ok (.aload_n 0, 1) := by decide +kernel
theorem pm_d_findNetwork_178 : decode pm_c_findNetwork 178 = .ok (.iload 8, 2) := by decide +kernel
theorem pm_d_findNetwork_180 : decode pm_c_findNetwork 180 = .ok (.bipush 7, 2) := by decide +kernel
theorem pm_d_findNetwork_182 : decode pm_c_findNetwork 182 = .ok (.ishl, 1) := by decide +kernel
theorem pm_d_findNetwork_183 : decode pm_c_findNetwork 183 = .ok (.aload_n 0, 1) := by decide +kernel
theorem pm_d_findNetwork_184 : decode pm_c_findNetwork 184 = .ok (.getfield 30, 3) := by decide +kernel
theorem pm_d_findNetwork_187 : decode pm_c_findNetwork 187 = .ok (.iload_n 3, 1) := by decide +kernel
theorem pm_d_findNetwork_188 : decode pm_c_findNetwork 188 = .ok (.iaload, 1) := by decide +kernel
theorem pm_d_findNetwork_189 : decode pm_c_findNetwork 189 = .ok (.bipush 127, 2) := by decide +kernel
theorem pm_d_findNetwork_191 : decode pm_c_findNetwork 191 = .ok (.iand, 1) := by decide +kernel
theorem pm_d_findNetwork_192 : decode pm_c_findNetwork 192 = .ok (.ior, 1) := by decide +kernel
theorem pm_d_findNetwork_193 : decode pm_c_findNetwork 193 = .ok (.aload_n 0, 1) := by decide +kernel
theorem pm_d_findNetwork_194 : decode pm_c_findNetwork 194 = .ok (.iload 8, 2) := by decide +kernel
theorem pm_d_findNetwork_196 : decode pm_c_findNetwork 196 = .ok (.invokevirtual 147, 3) := by decide +kernel
theorem pm_d_findNetwork_199 : decode pm_c_findNetwork 199 = .ok (.iload_n 1, 1) := by decide +kernel
theorem pm_d_findNetwork_200 : decode pm_c_findNetwork 200 = .ok (.iand, 1) := by decide +kernel
theorem pm_d_findNetwork_201 : decode pm_c_findNetwork 201 = .ok (.ior, 1) := by decide +kernel
theorem pm_d_findNetwork_202 : decode pm_c_findNetwork 202 = .ok (.iload_n 3, 1) := by decide +kernel
theorem pm_d_findNetwork_203 : decode pm_c_findNetwork 203 = .ok (.iload 5, 2) := by decide +kernel
theorem pm_d_findNetwork_205 : decode pm_c_findNetwork 205 = .ok (.invokevirtual 122, 3) := by decide +kernel
theorem pm_d_findNetwork_208 : decode pm_c_findNetwork 208 = .ok (.iinc 5 1, 3) := by decide +kernel
theorem pm_d_findNetwork_211 : decode pm_c_findNetwork 211 = .ok (.goto (-102), 3) := by decide +kernel
theorem pm_d_findNetwork_214 : decode pm_c_findNetwork 214 = .ok (.iinc 3 1, 3) := by decide +kernel
theorem pm_d_findNetwork_217 : decode pm_c_findNetwork 217 = .ok (.goto (-132), 3) := by decide +kernel
theorem pm_d_findNetwork_220 : decode pm_c_findNetwork 220 = .ok (.aload_n 0, 1) := by decide +kernel
theorem pm_d_findNetwork_221 : decode pm_c_findNetwork 221 = .ok (.iload_n 3, 1) := by decide +kernel
theorem pm_d_findNetwork_222 : decode pm_c_findNetwork 222 = .ok (.invokevirtual 141, 3) := by decide +kernel
theorem pm_d_findNetwork_225 : decode pm_c_findNetwork 225 = .ok (.aload_n 0, 1) := by decide +kernel
theorem pm_d_findNetwork_226 : decode pm_c_findNetwork 226 = .ok (.aload_n 0, 1) := by decide +kernel
theorem pm_d_findNetwork_227 : decode pm_c_findNetwork 227 = .ok (.getfield 126, 3) := by decide +kernel
theorem pm_d_findNetwork_230 : decode pm_c_findNetwork 230 = .ok (.putfield 150, 3) := by decide +kernel
theorem pm_d_findNetwork_233 : decode pm_c_findNetwork 233 = .ok (.iconst 0, 1) := by decide +kernel
theorem pm_d_findNetwork_234 : decode pm_c_findNetwork 234 = .ok (.istore 4, 2) := by decide +kernel
theorem pm_d_findNetwork_236 : decode pm_c_findNetwork 236 = .ok (.iload 4, 2) := by decide +kernel
theorem pm_d_findNetwork_238 : decode pm_c_findNetwork 238 = .ok (.aload_n 0, 1) := by decide +kernel
theorem pm_d_findNetwork_239 : decode pm_c_findNetwork 239 = .ok (.getfield 126, 3) := by decide +kernel
theorem pm_d_findNetwork_242 : decode pm_c_findNetwork 242 = .ok (.if_icmp .ge 23, 3) := by decide +kernel
theorem pm_d_findNetwork_245 : decode pm_c_findNetwork 245 = .ok (.aload_n 0, 1) := by decide +kernel
theorem pm_d_findNetwork_246 : decode pm_c_findNetwork 246 = .ok (.getfield 45, 3) := by decide +kernel
theorem pm_d_findNetwork_249 : decode pm_c_findNetwork 249 = .ok (.iload 4, 2) := by decide +kernel
theorem pm_d_findNetwork_251 : decode pm_c_findNetwork 251 = .ok (.aload_n 0, 1) := by decide +kernel
theorem pm_d_findNetwork_252 : decode pm_c_findNetwork 252 = .ok (.getfield 39, 3) := by decide +kernel
theorem pm_d_findNetwork_255 : decode pm_c_findNetwork 255 = .ok (.iload 4, 2) := by decide +kernel
theorem pm_d_findNetwork_257 : decode pm_c_findNetwork 257 = .ok (.iaload, 1) := by decide +kernel
theorem pm_d_findNetwork_258 : decode pm_c_findNetwork 258 = .ok (.iastore, 1) := by decide +kernel
theorem pm_d_findNetwork_259 : decode pm_c_findNetwork 259 = .ok (.iinc 4 1, 3) := by decide +kernel
theorem pm_d_findNetwork_262 : decode pm_c_findNetwork 262 = .ok (.goto (-26), 3) := by decide +kernel
theorem pm_d_findNetwork_265 : decode pm_c_findNetwork 265 = .ok (.aload_n 0, 1) := by decide +kernel
theorem pm_d_findNetwork_266 : decode pm_c_findNetwork 266 = .ok (.iconst 1, 1) := by decide +kernel
theorem pm_d_findNetwork_267 : decode pm_c_findNetwork 267 = .ok (.putfield 69, 3) := by decide +kernel
theorem pm_d_findNetwork_270 : decode pm_c_findNetwork 270 = .ok (.return_, 1) := by decide +kernel
theorem pm_d_linear_0 : decode pm_c_linear 0 = .ok (.aload_n 0, 1) := by decide +kernel
theorem pm_d_linear_1 : decode pm_c_linear 1 = .ok (.iconst 0, 1) := by decide +kernel
theorem pm_d_linear_2 : decode pm_c_linear 2 = .ok (.putfield 52, 3) := by decide +kernel
theorem pm_d_linear_5 : decode pm_c_linear 5 = .ok (.iload_n 1, 1) := by decide +kernel
theorem pm_d_linear_6 : decode pm_c_linear 6 = .ok (.iconst (-1), 1) := by decide +kernel
theorem pm_d_linear_7 : decode pm_c_linear 7 = .ok (.if_icmp .ge 5, 3) := by decide +kernel
theorem pm_d_linear_10 : decode pm_c_linear 10 = .ok (.iconst (-1), 1) := by decide +kernel
theorem pm_d_linear_11 : decode pm_c_linear 11 = .ok (.ireturn, 1) := by decide +kernel
theorem pm_d_linear_12 : decode pm_c_linear 12 = .ok (.aload_n 0, 1) := by decide +kernel
theorem pm_d_linear_13 : decode pm_c_linear 13 = .ok (.invokevirtual 153, 3) := by decide +kernel
theorem pm_d_linear_16 : decode pm_c_linear 16 = .ok (.iload_n 1, 1) := by decide +kernel
theorem pm_d_linear_17 : decode pm_c_linear 17 = .ok (.iconst (-1), 1) := by decide +kernel
theorem pm_d_linear_18 : decode pm_c_linear 18 = .ok (.if_icmp .ne 10, 3) := by decide +kernel
theorem pm_d_linear_21 : decode pm_c_linear 21 = .ok (.aload_n 0, 1) := by decide +kernel
theorem pm_d_linear_22 : decode pm_c_linear 22 = .ok (.getfield 144, 3) := by decide +kernel
theorem pm_d_linear_25 : decode pm_c_linear 25 = .ok (.goto 21, 3) := by decide +kernel
theorem pm_d_linear_28 : decode pm_c_linear 28 = .ok (.iload_n 1, 1) := by decide +kernel
theorem pm_d_linear_29 : decode pm_c_linear 29 = .ok (.aload_n 0, 1) := by decide +kernel
theorem pm_d_linear_30 : decode pm_c_linear 30 = .ok (.getfield 144, 3) := by decide +kernel
theorem pm_d_linear_33 : decode pm_c_linear 33 = .ok (.if_icmp .ge 12, 3) := by decide +kernel
theorem pm_d_linear_36 : decode pm_c_linear 36 = .ok (.aload_n 0, 1) := by decide +kernel
theorem pm_d_linear_37 : decode pm_c_linear 37 = .ok (.getfield 42, 3) := by decide +kernel
theorem pm_d_linear_40 : decode pm_c_linear 40 = .ok (.iload_n 1, 1) := by decide +kernel
theorem pm_d_linear_41 : decode pm_c_linear 41 = .ok (.iaload, 1) := by decide +kernel
theorem pm_d_linear_42 : decode pm_c_linear 42 = .ok (.goto 4, 3) := by decide +kernel
theorem pm_d_linear_45 : decode pm_c_linear 45 = .ok (.iconst (-1), 1) := by decide +kernel
theorem pm_d_linear_46 : decode pm_c_linear 46 = .ok (.ireturn, 1) := by decide +kernel
theorem pm_d_network_0 : decode pm_c_network 0 = .ok (.aload_n 0, 1) := by decide +kernel
theorem pm_d_network_1 : decode pm_c_network 1 = .ok (.iconst 0, 1) := by decide +kernel
theorem pm_d_network_2 : decode pm_c_network 2 = .ok (.putfield 52, 3) := by decide +kernel
theorem pm_d_network_5 : decode pm_c_network 5 = .ok (.iload_n 1, 1) := by decide +kernel
theorem pm_d_network_6 : decode pm_c_network 6 = .ok (.iconst (-1), 1) := by decide +kernel
theorem pm_d_network_7 : decode pm_c_network 7 = .ok (.if_icmp .lt 11, 3) := by decide +kernel
theorem pm_d_network_10 : decode pm_c_network 10 = .ok (.aload_n 0, 1) := by decide +kernel
theorem pm_d_network_11 : decode pm_c_network 11 = .ok (.getfield 56, 3) := by decide +kernel
theorem pm_d_network_14 : decode pm_c_network 14 = .ok (.iconst 4, 1) := by decide +kernel
theorem pm_d_network_15 : decode pm_c_network 15 = .ok (.if_icmp .ne 5, 3) := by decide +kernel
theorem pm_d_network_18 : decode pm_c_network 18 = .ok (.iconst (-1), 1) := by decide +kernel
theorem pm_d_network_19 : decode pm_c_network 19 = .ok (.ireturn, 1) := by decide +kernel
theorem pm_d_network_20 : decode pm_c_network 20 = .ok (.aload_n 0, 1) := by decide +kernel
theorem pm_d_network_21 : decode pm_c_network 21 = .ok (.invokevirtual 156, 3) := by decide +kernel
theorem pm_d_network_24 : decode pm_c_network 24 = .ok (.iload_n 1, 1) := by decide +kernel
theorem pm_d_network_25 : decode pm_c_network 25 = .ok (.iconst (-1), 1) := by decide +kernel
theorem pm_d_network_26 : decode pm_c_network 26 = .ok (.if_icmp .ne 10, 3) := by decide +kernel
theorem pm_d_network_29 : decode pm_c_network 29 = .ok (.aload_n 0, 1) := by decide +kernel
theorem pm_d_network_30 : decode pm_c_network 30 = .ok (.getfield 150, 3) := by decide +kernel
theorem pm_d_network_33 : decode pm_c_network 33 = .ok (.goto 21, 3) := by decide +kernel
theorem pm_d_network_36 : decode pm_c_network 36 = .ok (.iload_n 1, 1) := by decide +kernel
theorem pm_d_network_37 : decode pm_c_network 37 = .ok (.aload_n 0, 1) := by decide +kernel
theorem pm_d_network_38 : decode pm_c_network 38 = .ok (.getfield 150, 3) := by decide +kernel
theorem pm_d_network_41 : decode pm_c_network 41 = .ok (.if_icmp .ge 12, 3) := by decide +kernel
theorem pm_d_network_44 : decode pm_c_network 44 = .ok (.aload_n 0, 1) := by decide +kernel
theorem pm_d_network_45 : decode pm_c_network 45 = .ok (.getfield 45, 3) := by decide +kernel
theorem pm_d_network_48 : decode pm_c_network 48 = .ok (.iload_n 1, 1) := by decide +kernel
theorem pm_d_network_49 : decode pm_c_network 49 = .ok (.iaload, 1) := by decide +kernel
theorem pm_d_network_50 : decode pm_c_network 50 = .ok (.goto 4, 3) := by decide +kernel
theorem pm_d_network_53 : decode pm_c_network 53 = .ok (.iconst (-1), 1) := by decide +kernel
theorem pm_d_network_54 : decode pm_c_network 54 = .ok (.ireturn, 1) := by decide +kernel
theorem pm_d_total_0 : decode pm_c_total 0 = .ok (.aload_n 0, 1) := by decide +kernel
theorem pm_d_total_1 : decode pm_c_total 1 = .ok (.iconst 0, 1) := by decide +kernel
theorem pm_d_total_2 : decode pm_c_total 2 = .ok (.putfield 52, 3) := by decide +kernel
theorem pm_d_total_5 : decode pm_c_total 5 = .ok (.iconst 0, 1) := by decide +kernel
theorem pm_d_total_6 : decode pm_c_total 6 = .ok (.istore_n 2, 1) := by decide +kernel
theorem pm_d_total_7 : decode pm_c_total 7 = .ok (.iconst 0, 1) := by decide +kernel
theorem pm_d_total_8 : decode pm_c_total 8 = .ok (.istore_n 3, 1) := by decide +kernel
theorem pm_d_total_9 : decode pm_c_total 9 = .ok (.iconst 1, 1) := by decide +kernel
theorem pm_d_total_10 : decode pm_c_total 10 = .ok (.istore 4, 2) := by decide +kernel
theorem pm_d_total_12 : decode pm_c_total 12 = .ok (.iload 4, 2) := by decide +kernel
theorem pm_d_total_14 : decode pm_c_total 14 = .ok (.aload_n 0, 1) := by decide +kernel
theorem pm_d_total_15 : decode pm_c_total 15 = .ok (.invokevirtual 79, 3) := by decide +kernel
theorem pm_d_total_18 : decode pm_c_total 18 = .ok (.if_icmp .ge 39, 3) := by decide +kernel
theorem pm_d_total_21 : decode pm_c_total 21 = .ok (.iload_n 2, 1) := by decide +kernel
theorem pm_d_total_22 : decode pm_c_total 22 = .ok (.aload_n 0, 1) := by decide +kernel
theorem pm_d_total_23 : decode pm_c_total 23 = .ok (.getfield 13, 3) := by decide +kernel
theorem pm_d_total_26 : decode pm_c_total 26 = .ok (.iload 4, 2) := by decide +kernel
theorem pm_d_total_28 : decode pm_c_total 28 = .ok (.iaload, 1) := by decide +kernel
theorem pm_d_total_29 : decode pm_c_total 29 = .ok (.ifCond .ne 7, 3) := by decide +kernel
theorem pm_d_total_32 : decode pm_c_total 32 = .ok (.iconst 0, 1) := by decide +kernel
theorem pm_d_total_33 : decode pm_c_total 33 = .ok (.goto 4, 3) := by decide +kernel
theorem pm_d_total_36 : decode pm_c_total 36 = .ok (.iconst 1, 1) := by decide +kernel
theorem pm_d_total_37 : decode pm_c_total 37 = .ok (.iadd, 1) := by decide +kernel
theorem pm_d_total_38 : decode pm_c_total 38 = .ok (.istore_n 2, 1) := by decide +kernel
theorem pm_d_total_39 : decode pm_c_total 39 = .ok (.iload_n 3, 1) := by decide +kernel
theorem pm_d_total_40 : decode pm_c_total 40 = .ok (.aload_n 0, 1) := by decide +kernel
theorem pm_d_total_41 : decode pm_c_total 41 = .ok (.getfield 13, 3) := by decide +kernel
theorem pm_d_total_44 : decode pm_c_total 44 = .ok (.iload 4, 2) := by decide +kernel
theorem pm_d_total_46 : decode pm_c_total 46 = .ok (.iaload, 1) := by decide +kernel
theorem pm_d_total_47 : decode pm_c_total 47 = .ok (.iconst 1, 1) := by decide +kernel
theorem pm_d_total_48 : decode pm_c_total 48 = .ok (.iand, 1) := by decide +kernel
theorem pm_d_total_49 : decode pm_c_total 49 = .ok (.iadd, 1) := by decide +kernel
theorem pm_d_total_50 : decode pm_c_total 50 = .ok (.istore_n 3, 1) := by decide +kernel
theorem pm_d_total_51 : decode pm_c_total 51 = .ok (.iinc 4 1, 3) := by decide +kernel
theorem pm_d_total_54 : decode pm_c_total 54 = .ok (.goto (-42), 3) := by decide +kernel
theorem pm_d_total_57 : decode pm_c_total 57 = .ok (.iload_n 1, 1) := by decide +kernel
theorem pm_d_total_58 : decode pm_c_total 58 = .ok (.tableswitch 72 0 3 #[30, 35, 37, 39], 30) := by decide +kernel
theorem pm_d_total_88 : decode pm_c_total 88 = .ok (.aload_n 0, 1) := by decide +kernel
theorem pm_d_total_89 : decode pm_c_total 89 = .ok (.getfield 56, 3) := by decide +kernel
theorem pm_d_total_92 : decode pm_c_total 92 = .ok (.ireturn, 1) := by decide +kernel
theorem pm_d_total_93 : decode pm_c_total 93 = .ok (.iload_n 2, 1) := by decide +kernel
theorem pm_d_total_94 : decode pm_c_total 94 = .ok (.ireturn, 1) := by decide +kernel
theorem pm_d_total_95 : decode pm_c_total 95 = .ok (.iload_n 3, 1) := by decide +kernel
theorem pm_d_total_96 : decode pm_c_total 96 = .ok (.ireturn, 1) := by decide +kernel
theorem pm_d_total_97 : decode pm_c_total 97 = .ok (.iconst 1, 1) := by decide +kernel
theorem pm_d_total_98 : decode pm_c_total 98 = .ok (.aload_n 0, 1) := by decide +kernel
theorem pm_d_total_99 : decode pm_c_total 99 = .ok (.iconst 2, 1) := by decide +kernel
theorem pm_d_total_100 : decode pm_c_total 100 = .ok (.invokevirtual 93, 3) := by decide +kernel
theorem pm_d_total_103 : decode pm_c_total 103 = .ok (.ishl, 1) := by decide +kernel
theorem pm_d_total_104 : decode pm_c_total 104 = .ok (.iconst 1, 1) := by decide +kernel
theorem pm_d_total_105 : decode pm_c_total 105 = .ok (.iconst 2, 1) := by decide +kernel
theorem pm_d_total_106 : decode pm_c_total 106 = .ok (.aload_n 0, 1) := by decide +kernel
theorem pm_d_total_107 : decode pm_c_total 107 = .ok (.iconst 3, 1) := by decide +kernel
theorem pm_d_total_108 : decode pm_c_total 108 = .ok (.invokevirtual 93, 3) := by decide +kernel
theorem pm_d_total_111 : decode pm_c_total 111 = .ok (.imul, 1) := by decide +kernel
theorem pm_d_total_112 : decode pm_c_total 112 = .ok (.ishl, 1) := by decide +kernel
theorem pm_d_total_113 : decode pm_c_total 113 = .ok (.imul, 1) := by decide +kernel
theorem pm_d_total_114 : decode pm_c_total 114 = .ok (.aload_n 0, 1) := by decide +kernel
theorem pm_d_total_115 : decode pm_c_total 115 = .ok (.getfield 56, 3) := by decide +kernel
theorem pm_d_total_118 : decode pm_c_total 118 = .ok (.iconst 4, 1) := by decide +kernel
theorem pm_d_total_119 : decode pm_c_total 119 = .ok (.if_icmp .ne 8, 3) := by decide +kernel
theorem pm_d_total_122 : decode pm_c_total 122 = .ok (.bipush 8, 2) := by decide +kernel
theorem pm_d_total_124 : decode pm_c_total 124 = .ok (.goto 4, 3) := by decide +kernel
theorem pm_d_total_127 : decode pm_c_total 127 = .ok (.iconst 1, 1) := by decide +kernel
theorem pm_d_total_128 : decode pm_c_total 128 = .ok (.imul, 1) := by decide +kernel
theorem pm_d_total_129 : decode pm_c_total 129 = .ok (.ireturn, 1) := by decide +kernel
theorem pm_d_total_130 : decode pm_c_total 130 = .ok (.iconst (-1), 1) := by decide +kernel
theorem pm_d_total_131 : decode pm_c_total 131 = .ok (.ireturn, 1) := by decide +kernel
