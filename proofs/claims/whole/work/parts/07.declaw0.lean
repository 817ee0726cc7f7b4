theorem lw_d_0 : decode code 0 = .ok (.new 7, 3) := by decide +kernel
theorem lw_d_3 : decode code 3 = .ok (.dup, 1) := by decide +kernel
theorem lw_d_4 : decode code 4 = .ok (.invokespecial 9, 3) := by decide +kernel
theorem lw_d_7 : decode code 7 = .ok (.astore_n 1, 1) := by decide +kernel
theorem lw_d_8 : decode code 8 = .ok (.new 10, 3) := by decide +kernel
theorem lw_d_11 : decode code 11 = .ok (.dup, 1) := by decide +kernel
theorem lw_d_12 : decode code 12 = .ok (.invokespecial 12, 3) := by decide +kernel
theorem lw_d_15 : decode code 15 = .ok (.astore_n 2, 1) := by decide +kernel
theorem lw_d_16 : decode code 16 = .ok (.iconst 0, 1) := by decide +kernel
theorem lw_d_17 : decode code 17 = .ok (.istore_n 3, 1) := by decide +kernel
theorem lw_d_18 : decode code 18 = .ok (.iload_n 3, 1) := by decide +kernel
theorem lw_d_19 : decode code 19 = .ok (.aload_n 0, 1) := by decide +kernel
theorem lw_d_20 : decode code 20 = .ok (.arraylength, 1) := by decide +kernel
theorem lw_d_21 : decode code 21 = .ok (.iconst 3, 1) := by decide +kernel
theorem lw_d_22 : decode code 22 = .ok (.isub, 1) := by decide +kernel
theorem lw_d_23 : decode code 23 = .ok (.if_icmp .gt 375, 3) := by decide +kernel
theorem lw_d_26 : decode code 26 = .ok (.aload_n 0, 1) := by decide +kernel
theorem lw_d_27 : decode code 27 = .ok (.iload_n 3, 1) := by decide +kernel
theorem lw_d_28 : decode code 28 = .ok (.iaload, 1) := by decide +kernel
theorem lw_d_29 : decode code 29 = .ok (.bipush 15, 2) := by decide +kernel
theorem lw_d_31 : decode code 31 = .ok (.iand, 1) := by decide +kernel
theorem lw_d_32 : decode code 32 = .ok (.tableswitch 360 0 11 #[64, 87, 120, 153, 186, 209, 232, 255, 278, 291, 314, 337], 64) := by decide +kernel
theorem lw_d_96 : decode code 96 = .ok (.aload_n 1, 1) := by decide +kernel
theorem lw_d_97 : decode code 97 = .ok (.aload_n 0, 1) := by decide +kernel
theorem lw_d_98 : decode code 98 = .ok (.iload_n 3, 1) := by decide +kernel
theorem lw_d_99 : decode code 99 = .ok (.iconst 1, 1) := by decide +kernel
theorem lw_d_100 : decode code 100 = .ok (.iadd, 1) := by decide +kernel
theorem lw_d_101 : decode code 101 = .ok (.iaload, 1) := by decide +kernel
theorem lw_d_102 : decode code 102 = .ok (.invokevirtual 13, 3) := by decide +kernel
theorem lw_d_105 : decode code 105 = .ok (.aload_n 2, 1) := by decide +kernel
theorem lw_d_106 : decode code 106 = .ok (.aload_n 0, 1) := by decide +kernel
theorem lw_d_107 : decode code 107 = .ok (.iload_n 3, 1) := by decide +kernel
theorem lw_d_108 : decode code 108 = .ok (.iconst 1, 1) := by decide +kernel
theorem lw_d_109 : decode code 109 = .ok (.iadd, 1) := by decide +kernel
theorem lw_d_110 : decode code 110 = .ok (.iaload, 1) := by decide +kernel
theorem lw_d_111 : decode code 111 = .ok (.invokevirtual 17, 3) := by decide +kernel
theorem lw_d_114 : decode code 114 = .ok (.if_icmp .eq 278, 3) := by decide +kernel
theorem lw_d_117 : decode code 117 = .ok (.iconst 0, 1) := by decide +kernel
theorem lw_d_118 : decode code 118 = .ok (.ireturn, 1) := by decide +kernel
theorem lw_d_119 : decode code 119 = .ok (.aload_n 1, 1) := by decide +kernel
theorem lw_d_120 : decode code 120 = .ok (.aload_n 0, 1) := by decide +kernel
theorem lw_d_121 : decode code 121 = .ok (.iload_n 3, 1) := by decide +kernel
theorem lw_d_122 : decode code 122 = .ok (.iconst 1, 1) := by decide +kernel
theorem lw_d_123 : decode code 123 = .ok (.iadd, 1) := by decide +kernel
theorem lw_d_124 : decode code 124 = .ok (.iaload, 1) := by decide +kernel
theorem lw_d_125 : decode code 125 = .ok (.aload_n 0, 1) := by decide +kernel
theorem lw_d_126 : decode code 126 = .ok (.iload_n 3, 1) := by decide +kernel
theorem lw_d_127 : decode code 127 = .ok (.iconst 2, 1) := by decide +kernel
theorem lw_d_128 : decode code 128 = .ok (.iadd, 1) := by decide +kernel
theorem lw_d_129 : decode code 129 = .ok (.iaload, 1) := by decide +kernel
theorem lw_d_130 : decode code 130 = .ok (.invokevirtual 18, 3) := by decide +kernel
theorem lw_d_133 : decode code 133 = .ok (.aload_n 2, 1) := by decide +kernel
theorem lw_d_134 : decode code 134 = .ok (.aload_n 0, 1) := by decide +kernel
theorem lw_d_135 : decode code 135 = .ok (.iload_n 3, 1) := by decide +kernel
theorem lw_d_136 : decode code 136 = .ok (.iconst 1, 1) := by decide +kernel
theorem lw_d_137 : decode code 137 = .ok (.iadd, 1) := by decide +kernel
theorem lw_d_138 : decode code 138 = .ok (.iaload, 1) := by decide +kernel
theorem lw_d_139 : decode code 139 = .ok (.aload_n 0, 1) := by decide +kernel
theorem lw_d_140 : decode code 140 = .ok (.iload_n 3, 1) := by decide +kernel
theorem lw_d_141 : decode code 141 = .ok (.iconst 2, 1) := by decide +kernel
theorem lw_d_142 : decode code 142 = .ok (.iadd, 1) := by decide +kernel
theorem lw_d_143 : decode code 143 = .ok (.iaload, 1) := by decide +kernel
theorem lw_d_144 : decode code 144 = .ok (.invokevirtual 22, 3) := by decide +kernel
theorem lw_d_147 : decode code 147 = .ok (.if_icmp .eq 245, 3) := by decide +kernel
theorem lw_d_150 : decode code 150 = .ok (.iconst 0, 1) := by decide +kernel
theorem lw_d_151 : decode code 151 = .ok (.ireturn, 1) := by decide +kernel
theorem lw_d_152 : decode code 152 = .ok (.aload_n 1, 1) := by decide +kernel
theorem lw_d_153 : decode code 153 = .ok (.aload_n 0, 1) := by decide +kernel
theorem lw_d_154 : decode code 154 = .ok (.iload_n 3, 1) := by decide +kernel
theorem lw_d_155 : decode code 155 = .ok (.iconst 1, 1) := by decide +kernel
theorem lw_d_156 : decode code 156 = .ok (.iadd, 1) := by decide +kernel
theorem lw_d_157 : decode code 157 = .ok (.iaload, 1) := by decide +kernel
theorem lw_d_158 : decode code 158 = .ok (.aload_n 0, 1) := by decide +kernel
theorem lw_d_159 : decode code 159 = .ok (.iload_n 3, 1) := by decide +kernel
theorem lw_d_160 : decode code 160 = .ok (.iconst 2, 1) := by decide +kernel
theorem lw_d_161 : decode code 161 = .ok (.iadd, 1) := by decide +kernel
theorem lw_d_162 : decode code 162 = .ok (.iaload, 1) := by decide +kernel
theorem lw_d_163 : decode code 163 = .ok (.invokevirtual 23, 3) := by decide +kernel
theorem lw_d_166 : decode code 166 = .ok (.aload_n 2, 1) := by decide +kernel
theorem lw_d_167 : decode code 167 = .ok (.aload_n 0, 1) := by decide +kernel
theorem lw_d_168 : decode code 168 = .ok (.iload_n 3, 1) := by decide +kernel
theorem lw_d_169 : decode code 169 = .ok (.iconst 1, 1) := by decide +kernel
theorem lw_d_170 : decode code 170 = .ok (.iadd, 1) := by decide +kernel
