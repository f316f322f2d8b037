theorem i_143_0 : kI 143 0 = some (.aload_n 2, 1) := by decide +kernel
theorem i_143_1 : kI 143 1 = some (.iconst 0, 1) := by decide +kernel
theorem i_143_2 : kI 143 2 = some (.aload_n 0, 1) := by decide +kernel
theorem i_143_3 : kI 143 3 = some (.iload_n 1, 1) := by decide +kernel
theorem i_143_4 : kI 143 4 = some (.invokevirtual 7, 3) := by decide +kernel
theorem i_143_7 : kI 143 7 = some (.i2l, 1) := by decide +kernel
theorem i_143_8 : kI 143 8 = some (.lastore, 1) := by decide +kernel
theorem i_143_9 : kI 143 9 = some (.goto 9, 3) := by decide +kernel
theorem i_143_12 : kI 143 12 = some (.astore_n 3, 1) := by decide +kernel
theorem i_143_13 : kI 143 13 = some (.iconst 1, 1) := by decide +kernel
theorem i_143_14 : kI 143 14 = some (.ireturn, 1) := by decide +kernel
theorem i_143_15 : kI 143 15 = some (.astore_n 3, 1) := by decide +kernel
theorem i_143_16 : kI 143 16 = some (.iconst 2, 1) := by decide +kernel
theorem i_143_17 : kI 143 17 = some (.ireturn, 1) := by decide +kernel
theorem i_143_18 : kI 143 18 = some (.iconst 0, 1) := by decide +kernel
theorem i_143_19 : kI 143 19 = some (.ireturn, 1) := by decide +kernel
theorem i_144_0 : kI 144 0 = some (.aload_n 0, 1) := by decide +kernel
theorem i_144_1 : kI 144 1 = some (.iload_n 1, 1) := by decide +kernel
theorem i_144_2 : kI 144 2 = some (.iload_n 2, 1) := by decide +kernel
theorem i_144_3 : kI 144 3 = some (.invokevirtual 17, 3) := by decide +kernel
theorem i_144_6 : kI 144 6 = some (.goto 9, 3) := by decide +kernel
theorem i_144_9 : kI 144 9 = some (.astore_n 3, 1) := by decide +kernel
theorem i_144_10 : kI 144 10 = some (.iconst 1, 1) := by decide +kernel
theorem i_144_11 : kI 144 11 = some (.ireturn, 1) := by decide +kernel
theorem i_144_12 : kI 144 12 = some (.astore_n 3, 1) := by decide +kernel
theorem i_144_13 : kI 144 13 = some (.iconst 2, 1) := by decide +kernel
theorem i_144_14 : kI 144 14 = some (.ireturn, 1) := by decide +kernel
theorem i_144_15 : kI 144 15 = some (.iconst 0, 1) := by decide +kernel
theorem i_144_16 : kI 144 16 = some (.ireturn, 1) := by decide +kernel
theorem i_145_0 : kI 145 0 = some (.aload_n 0, 1) := by decide +kernel
theorem i_145_1 : kI 145 1 = some (.iload_n 1, 1) := by decide +kernel
theorem i_145_2 : kI 145 2 = some (.iload_n 2, 1) := by decide +kernel
theorem i_145_3 : kI 145 3 = some (.invokevirtual 21, 3) := by decide +kernel
theorem i_145_6 : kI 145 6 = some (.goto 6, 3) := by decide +kernel
theorem i_145_9 : kI 145 9 = some (.astore_n 3, 1) := by decide +kernel
theorem i_145_10 : kI 145 10 = some (.iconst 1, 1) := by decide +kernel
theorem i_145_11 : kI 145 11 = some (.ireturn, 1) := by decide +kernel
theorem i_145_12 : kI 145 12 = some (.iconst 0, 1) := by decide +kernel
theorem i_145_13 : kI 145 13 = some (.ireturn, 1) := by decide +kernel
theorem i_146_0 : kI 146 0 = some (.aload_n 2, 1) := by decide +kernel
theorem i_146_1 : kI 146 1 = some (.iconst 0, 1) := by decide +kernel
theorem i_146_2 : kI 146 2 = some (.aload_n 0, 1) := by decide +kernel
theorem i_146_3 : kI 146 3 = some (.iload_n 1, 1) := by decide +kernel
theorem i_146_4 : kI 146 4 = some (.invokevirtual 24, 3) := by decide +kernel
theorem i_146_7 : kI 146 7 = some (.i2l, 1) := by decide +kernel
theorem i_146_8 : kI 146 8 = some (.lastore, 1) := by decide +kernel
theorem i_146_9 : kI 146 9 = some (.goto 9, 3) := by decide +kernel
theorem i_146_12 : kI 146 12 = some (.astore_n 3, 1) := by decide +kernel
theorem i_146_13 : kI 146 13 = some (.iconst 1, 1) := by decide +kernel
theorem i_146_14 : kI 146 14 = some (.ireturn, 1) := by decide +kernel
theorem i_146_15 : kI 146 15 = some (.astore_n 3, 1) := by decide +kernel
theorem i_146_16 : kI 146 16 = some (.iconst 2, 1) := by decide +kernel
theorem i_146_17 : kI 146 17 = some (.ireturn, 1) := by decide +kernel
theorem i_146_18 : kI 146 18 = some (.iconst 0, 1) := by decide +kernel
theorem i_146_19 : kI 146 19 = some (.ireturn, 1) := by decide +kernel
theorem i_147_0 : kI 147 0 = some (.aload 4, 2) := by decide +kernel
theorem i_147_2 : kI 147 2 = some (.iconst 0, 1) := by decide +kernel
theorem i_147_3 : kI 147 3 = some (.aload_n 0, 1) := by decide +kernel
theorem i_147_4 : kI 147 4 = some (.iload_n 1, 1) := by decide +kernel
theorem i_147_5 : kI 147 5 = some (.iload_n 2, 1) := by decide +kernel
theorem i_147_6 : kI 147 6 = some (.iload_n 3, 1) := by decide +kernel
theorem i_147_7 : kI 147 7 = some (.invokevirtual 27, 3) := by decide +kernel
theorem i_147_10 : kI 147 10 = some (.i2l, 1) := by decide +kernel
theorem i_147_11 : kI 147 11 = some (.lastore, 1) := by decide +kernel
theorem i_147_12 : kI 147 12 = some (.goto 11, 3) := by decide +kernel
theorem i_147_15 : kI 147 15 = some (.astore 5, 2) := by decide +kernel
theorem i_147_17 : kI 147 17 = some (.iconst 1, 1) := by decide +kernel
theorem i_147_18 : kI 147 18 = some (.ireturn, 1) := by decide +kernel
theorem i_147_19 : kI 147 19 = some (.astore 5, 2) := by decide +kernel
theorem i_147_21 : kI 147 21 = some (.iconst 2, 1) := by decide +kernel
theorem i_147_22 : kI 147 22 = some (.ireturn, 1) := by decide +kernel
theorem i_147_23 : kI 147 23 = some (.iconst 0, 1) := by decide +kernel
theorem i_147_24 : kI 147 24 = some (.ireturn, 1) := by decide +kernel
theorem i_148_0 : kI 148 0 = some (.aload 5, 2) := by decide +kernel
theorem i_148_2 : kI 148 2 = some (.iconst 0, 1) := by decide +kernel
theorem i_148_3 : kI 148 3 = some (.aload_n 0, 1) := by decide +kernel
theorem i_148_4 : kI 148 4 = some (.iload_n 1, 1) := by decide +kernel
theorem i_148_5 : kI 148 5 = some (.iload_n 2, 1) := by decide +kernel
theorem i_148_6 : kI 148 6 = some (.iload_n 3, 1) := by decide +kernel
theorem i_148_7 : kI 148 7 = some (.iload 4, 2) := by decide +kernel
theorem i_148_9 : kI 148 9 = some (.invokevirtual 31, 3) := by decide +kernel
theorem i_148_12 : kI 148 12 = some (.i2l, 1) := by decide +kernel
theorem i_148_13 : kI 148 13 = some (.lastore, 1) := by decide +kernel
theorem i_148_14 : kI 148 14 = some (.goto 11, 3) := by decide +kernel
theorem i_148_17 : kI 148 17 = some (.astore 6, 2) := by decide +kernel
theorem i_148_19 : kI 148 19 = some (.iconst 1, 1) := by decide +kernel
theorem i_148_20 : kI 148 20 = some (.ireturn, 1) := by decide +kernel
theorem i_148_21 : kI 148 21 = some (.astore 6, 2) := by decide +kernel
theorem i_148_23 : kI 148 23 = some (.iconst 2, 1) := by decide +kernel
theorem i_148_24 : kI 148 24 = some (.ireturn, 1) := by decide +kernel
theorem i_148_25 : kI 148 25 = some (.iconst 0, 1) := by decide +kernel
theorem i_148_26 : kI 148 26 = some (.ireturn, 1) := by decide +kernel
theorem i_149_0 : kI 149 0 = some (.aload_n 0, 1) := by decide +kernel
theorem i_149_1 : kI 149 1 = some (.invokevirtual 35, 3) := by decide +kernel
theorem i_149_4 : kI 149 4 = some (.goto 6, 3) := by decide +kernel
theorem i_149_7 : kI 149 7 = some (.astore_n 1, 1) := by decide +kernel
theorem i_149_8 : kI 149 8 = some (.iconst 1, 1) := by decide +kernel
theorem i_149_9 : kI 149 9 = some (.ireturn, 1) := by decide +kernel
theorem i_149_10 : kI 149 10 = some (.iconst 0, 1) := by decide +kernel
theorem i_149_11 : kI 149 11 = some (.ireturn, 1) := by decide +kernel
theorem i_150_0 : kI 150 0 = some (.aload_n 1, 1) := by decide +kernel
theorem i_150_1 : kI 150 1 = some (.iconst 0, 1) := by decide +kernel
theorem i_150_2 : kI 150 2 = some (.aload_n 0, 1) := by decide +kernel
theorem i_150_3 : kI 150 3 = some (.invokevirtual 38, 3) := by decide +kernel
theorem i_150_6 : kI 150 6 = some (.i2l, 1) := by decide +kernel
theorem i_150_7 : kI 150 7 = some (.lastore, 1) := by decide +kernel
theorem i_150_8 : kI 150 8 = some (.goto 6, 3) := by decide +kernel
theorem i_150_11 : kI 150 11 = some (.astore_n 2, 1) := by decide +kernel
theorem i_150_12 : kI 150 12 = some (.iconst 1, 1) := by decide +kernel
theorem i_150_13 : kI 150 13 = some (.ireturn, 1) := by decide +kernel
theorem i_150_14 : kI 150 14 = some (.iconst 0, 1) := by decide +kernel
theorem i_150_15 : kI 150 15 = some (.ireturn, 1) := by decide +kernel
theorem i_151_0 : kI 151 0 = some (.aload_n 1, 1) := by decide +kernel
theorem i_151_1 : kI 151 1 = some (.iconst 0, 1) := by decide +kernel
theorem i_151_2 : kI 151 2 = some (.aload_n 0, 1) := by decide +kernel
theorem i_151_3 : kI 151 3 = some (.invokevirtual 42, 3) := by decide +kernel
theorem i_151_6 : kI 151 6 = some (.i2l, 1) := by decide +kernel
theorem i_151_7 : kI 151 7 = some (.lastore, 1) := by decide +kernel
theorem i_151_8 : kI 151 8 = some (.goto 6, 3) := by decide +kernel
theorem i_151_11 : kI 151 11 = some (.astore_n 2, 1) := by decide +kernel
theorem i_151_12 : kI 151 12 = some (.iconst 1, 1) := by decide +kernel
theorem i_151_13 : kI 151 13 = some (.ireturn, 1) := by decide +kernel
theorem i_151_14 : kI 151 14 = some (.iconst 0, 1) := by decide +kernel
theorem i_151_15 : kI 151 15 = some (.ireturn, 1) := by decide +kernel
theorem i_152_0 : kI 152 0 = some (.aload 4, 2) := by decide +kernel
theorem i_152_2 : kI 152 2 = some (.iconst 0, 1) := by decide +kernel
theorem i_152_3 : kI 152 3 = some (.aload_n 0, 1) := by decide +kernel
theorem i_152_4 : kI 152 4 = some (.iload_n 1, 1) := by decide +kernel
theorem i_152_5 : kI 152 5 = some (.iload_n 2, 1) := by decide +kernel
theorem i_152_6 : kI 152 6 = some (.iload_n 3, 1) := by decide +kernel
theorem i_152_7 : kI 152 7 = some (.invokevirtual 45, 3) := by decide +kernel
theorem i_152_10 : kI 152 10 = some (.i2l, 1) := by decide +kernel
theorem i_152_11 : kI 152 11 = some (.lastore, 1) := by decide +kernel
theorem i_152_12 : kI 152 12 = some (.goto 7, 3) := by decide +kernel
theorem i_152_15 : kI 152 15 = some (.astore 5, 2) := by decide +kernel
theorem i_152_17 : kI 152 17 = some (.iconst 1, 1) := by decide +kernel
theorem i_152_18 : kI 152 18 = some (.ireturn, 1) := by decide +kernel
theorem i_152_19 : kI 152 19 = some (.iconst 0, 1) := by decide +kernel
theorem i_152_20 : kI 152 20 = some (.ireturn, 1) := by decide +kernel
theorem i_153_0 : kI 153 0 = some (.aload_n 2, 1) := by decide +kernel
theorem i_153_1 : kI 153 1 = some (.iconst 0, 1) := by decide +kernel
theorem i_153_2 : kI 153 2 = some (.aload_n 0, 1) := by decide +kernel
theorem i_153_3 : kI 153 3 = some (.iload_n 1, 1) := by decide +kernel
theorem i_153_4 : kI 153 4 = some (.invokevirtual 48, 3) := by decide +kernel
theorem i_153_7 : kI 153 7 = some (.i2l, 1) := by decide +kernel
theorem i_153_8 : kI 153 8 = some (.lastore, 1) := by decide +kernel
theorem i_153_9 : kI 153 9 = some (.goto 6, 3) := by decide +kernel
theorem i_153_12 : kI 153 12 = some (.astore_n 3, 1) := by decide +kernel
theorem i_153_13 : kI 153 13 = some (.iconst 1, 1) := by decide +kernel
theorem i_153_14 : kI 153 14 = some (.ireturn, 1) := by decide +kernel
theorem i_153_15 : kI 153 15 = some (.iconst 0, 1) := by decide +kernel
theorem i_153_16 : kI 153 16 = some (.ireturn, 1) := by decide +kernel
theorem i_154_0 : kI 154 0 = some (.aload_n 1, 1) := by decide +kernel
theorem i_154_1 : kI 154 1 = some (.iconst 0, 1) := by decide +kernel
theorem i_154_2 : kI 154 2 = some (.aload_n 0, 1) := by decide +kernel
theorem i_154_3 : kI 154 3 = some (.invokevirtual 51, 3) := by decide +kernel
theorem i_154_6 : kI 154 6 = some (.i2l, 1) := by decide +kernel
theorem i_154_7 : kI 154 7 = some (.lastore, 1) := by decide +kernel
theorem i_154_8 : kI 154 8 = some (.goto 6, 3) := by decide +kernel
theorem i_154_11 : kI 154 11 = some (.astore_n 2, 1) := by decide +kernel
theorem i_154_12 : kI 154 12 = some (.iconst 1, 1) := by decide +kernel
theorem i_154_13 : kI 154 13 = some (.ireturn, 1) := by decide +kernel
theorem i_154_14 : kI 154 14 = some (.iconst 0, 1) := by decide +kernel
theorem i_154_15 : kI 154 15 = some (.ireturn, 1) := by decide +kernel
theorem i_155_0 : kI 155 0 = some (.aload_n 2, 1) := by decide +kernel
theorem i_155_1 : kI 155 1 = some (.iconst 0, 1) := by decide +kernel
theorem i_155_2 : kI 155 2 = some (.aload_n 0, 1) := by decide +kernel
theorem i_155_3 : kI 155 3 = some (.iload_n 1, 1) := by decide +kernel
theorem i_155_4 : kI 155 4 = some (.invokevirtual 54, 3) := by decide +kernel
theorem i_155_7 : kI 155 7 = some (.i2l, 1) := by decide +kernel
theorem i_155_8 : kI 155 8 = some (.lastore, 1) := by decide +kernel
theorem i_155_9 : kI 155 9 = some (.goto 9, 3) := by decide +kernel
theorem i_155_12 : kI 155 12 = some (.astore_n 3, 1) := by decide +kernel
theorem i_155_13 : kI 155 13 = some (.iconst 1, 1) := by decide +kernel
theorem i_155_14 : kI 155 14 = some (.ireturn, 1) := by decide +kernel
theorem i_155_15 : kI 155 15 = some (.astore_n 3, 1) := by decide +kernel
theorem i_155_16 : kI 155 16 = some (.iconst 2, 1) := by decide +kernel
theorem i_155_17 : kI 155 17 = some (.ireturn, 1) := by decide +kernel
theorem i_155_18 : kI 155 18 = some (.iconst 0, 1) := by decide +kernel
theorem i_155_19 : kI 155 19 = some (.ireturn, 1) := by decide +kernel
theorem i_156_0 : kI 156 0 = some (.new 8, 3) := by decide +kernel
theorem i_156_3 : kI 156 3 = some (.dup, 1) := by decide +kernel
theorem i_156_4 : kI 156 4 = some (.invokespecial 57, 3) := by decide +kernel
theorem i_156_7 : kI 156 7 = some (.astore_n 1, 1) := by decide +kernel
theorem i_156_8 : kI 156 8 = some (.new 58, 3) := by decide +kernel
theorem i_156_11 : kI 156 11 = some (.dup, 1) := by decide +kernel
theorem i_156_12 : kI 156 12 = some (.invokespecial 60, 3) := by decide +kernel
theorem i_156_15 : kI 156 15 = some (.astore_n 2, 1) := by decide +kernel
theorem i_156_16 : kI 156 16 = some (.iconst 1, 1) := by decide +kernel
theorem i_156_17 : kI 156 17 = some (.newarray .long, 2) := by decide +kernel
theorem i_156_19 : kI 156 19 = some (.astore_n 3, 1) := by decide +kernel
theorem i_156_20 : kI 156 20 = some (.iconst 0, 1) := by decide +kernel
theorem i_156_21 : kI 156 21 = some (.istore 4, 2) := by decide +kernel
theorem i_156_23 : kI 156 23 = some (.iload 4, 2) := by decide +kernel
theorem i_156_25 : kI 156 25 = some (.aload_n 0, 1) := by decide +kernel
theorem i_156_26 : kI 156 26 = some (.arraylength, 1) := by decide +kernel
theorem i_156_27 : kI 156 27 = some (.iconst 5, 1) := by decide +kernel
theorem i_156_28 : kI 156 28 = some (.isub, 1) := by decide +kernel
theorem i_156_29 : kI 156 29 = some (.if_icmp .gt 872, 3) := by decide +kernel
theorem i_156_32 : kI 156 32 = some (.aload_n 0, 1) := by decide +kernel
theorem i_156_33 : kI 156 33 = some (.iload 4, 2) := by decide +kernel
theorem i_156_35 : kI 156 35 = some (.iaload, 1) := by decide +kernel
theorem i_156_36 : kI 156 36 = some (.bipush 15, 2) := by decide +kernel
theorem i_156_38 : kI 156 38 = some (.iand, 1) := by decide +kernel
theorem i_156_39 : kI 156 39 = some (.tableswitch 856 0 15 #[77, 133, 181, 229, 285, 365, 457, 481, 525, 569, 649, 705, 749, 762, 818, 843], 77) := by decide +kernel
theorem i_156_116 : kI 156 116 = some (.aload_n 1, 1) := by decide +kernel
theorem i_156_117 : kI 156 117 = some (.aload_n 0, 1) := by decide +kernel
theorem i_156_118 : kI 156 118 = some (.iload 4, 2) := by decide +kernel
theorem i_156_120 : kI 156 120 = some (.iconst 1, 1) := by decide +kernel
theorem i_156_121 : kI 156 121 = some (.iadd, 1) := by decide +kernel
theorem i_156_122 : kI 156 122 = some (.iaload, 1) := by decide +kernel
theorem i_156_123 : kI 156 123 = some (.aload_n 3, 1) := by decide +kernel
theorem i_156_124 : kI 156 124 = some (.invokestatic 61, 3) := by decide +kernel
theorem i_156_127 : kI 156 127 = some (.istore 5, 2) := by decide +kernel
theorem i_156_129 : kI 156 129 = some (.aload_n 2, 1) := by decide +kernel
theorem i_156_130 : kI 156 130 = some (.aload_n 0, 1) := by decide +kernel
theorem i_156_131 : kI 156 131 = some (.iload 4, 2) := by decide +kernel
theorem i_156_133 : kI 156 133 = some (.iconst 1, 1) := by decide +kernel
theorem i_156_134 : kI 156 134 = some (.iadd, 1) := by decide +kernel
theorem i_156_135 : kI 156 135 = some (.iaload, 1) := by decide +kernel
theorem i_156_136 : kI 156 136 = some (.invokevirtual 66, 3) := by decide +kernel
theorem i_156_139 : kI 156 139 = some (.istore 6, 2) := by decide +kernel
theorem i_156_141 : kI 156 141 = some (.aload_n 2, 1) := by decide +kernel
theorem i_156_142 : kI 156 142 = some (.invokevirtual 67, 3) := by decide +kernel
theorem i_156_145 : kI 156 145 = some (.iload 5, 2) := by decide +kernel
theorem i_156_147 : kI 156 147 = some (.if_icmp .eq 5, 3) := by decide +kernel
theorem i_156_150 : kI 156 150 = some (.iconst 0, 1) := by decide +kernel
theorem i_156_151 : kI 156 151 = some (.ireturn, 1) := by decide +kernel
theorem i_156_152 : kI 156 152 = some (.iload 5, 2) := by decide +kernel
theorem i_156_154 : kI 156 154 = some (.ifCond .ne 15, 3) := by decide +kernel
theorem i_156_157 : kI 156 157 = some (.aload_n 3, 1) := by decide +kernel
theorem i_156_158 : kI 156 158 = some (.iconst 0, 1) := by decide +kernel
theorem i_156_159 : kI 156 159 = some (.laload, 1) := by decide +kernel
theorem i_156_160 : kI 156 160 = some (.iload 6, 2) := by decide +kernel
theorem i_156_162 : kI 156 162 = some (.i2l, 1) := by decide +kernel
theorem i_156_163 : kI 156 163 = some (.lcmp, 1) := by decide +kernel
theorem i_156_164 : kI 156 164 = some (.ifCond .eq 5, 3) := by decide +kernel
theorem i_156_167 : kI 156 167 = some (.iconst 0, 1) := by decide +kernel
theorem i_156_168 : kI 156 168 = some (.ireturn, 1) := by decide +kernel
theorem i_156_169 : kI 156 169 = some (.goto 726, 3) := by decide +kernel
theorem i_156_172 : kI 156 172 = some (.aload_n 1, 1) := by decide +kernel
theorem i_156_173 : kI 156 173 = some (.aload_n 0, 1) := by decide +kernel
theorem i_156_174 : kI 156 174 = some (.iload 4, 2) := by decide +kernel
theorem i_156_176 : kI 156 176 = some (.iconst 1, 1) := by decide +kernel
theorem i_156_177 : kI 156 177 = some (.iadd, 1) := by decide +kernel
theorem i_156_178 : kI 156 178 = some (.iaload, 1) := by decide +kernel
theorem i_156_179 : kI 156 179 = some (.aload_n 0, 1) := by decide +kernel
theorem i_156_180 : kI 156 180 = some (.iload 4, 2) := by decide +kernel
theorem i_156_182 : kI 156 182 = some (.iconst 2, 1) := by decide +kernel
theorem i_156_183 : kI 156 183 = some (.iadd, 1) := by decide +kernel
theorem i_156_184 : kI 156 184 = some (.iaload, 1) := by decide +kernel
theorem i_156_185 : kI 156 185 = some (.invokestatic 70, 3) := by decide +kernel
theorem i_156_188 : kI 156 188 = some (.istore 5, 2) := by decide +kernel
theorem i_156_190 : kI 156 190 = some (.aload_n 2, 1) := by decide +kernel
theorem i_156_191 : kI 156 191 = some (.aload_n 0, 1) := by decide +kernel
theorem i_156_192 : kI 156 192 = some (.iload 4, 2) := by decide +kernel
theorem i_156_194 : kI 156 194 = some (.iconst 1, 1) := by decide +kernel
theorem i_156_195 : kI 156 195 = some (.iadd, 1) := by decide +kernel
theorem i_156_196 : kI 156 196 = some (.iaload, 1) := by decide +kernel
theorem i_156_197 : kI 156 197 = some (.aload_n 0, 1) := by decide +kernel
theorem i_156_198 : kI 156 198 = some (.iload 4, 2) := by decide +kernel
theorem i_156_200 : kI 156 200 = some (.iconst 2, 1) := by decide +kernel
theorem i_156_201 : kI 156 201 = some (.iadd, 1) := by decide +kernel
theorem i_156_202 : kI 156 202 = some (.iaload, 1) := by decide +kernel
theorem i_156_203 : kI 156 203 = some (.invokevirtual 73, 3) := by decide +kernel
theorem i_156_206 : kI 156 206 = some (.aload_n 2, 1) := by decide +kernel
theorem i_156_207 : kI 156 207 = some (.invokevirtual 67, 3) := by decide +kernel
theorem i_156_210 : kI 156 210 = some (.iload 5, 2) := by decide +kernel
theorem i_156_212 : kI 156 212 = some (.if_icmp .eq 5, 3) := by decide +kernel
theorem i_156_215 : kI 156 215 = some (.iconst 0, 1) := by decide +kernel
theorem i_156_216 : kI 156 216 = some (.ireturn, 1) := by decide +kernel
theorem i_156_217 : kI 156 217 = some (.goto 678, 3) := by decide +kernel
theorem i_156_220 : kI 156 220 = some (.aload_n 1, 1) := by decide +kernel
theorem i_156_221 : kI 156 221 = some (.aload_n 0, 1) := by decide +kernel
theorem i_156_222 : kI 156 222 = some (.iload 4, 2) := by decide +kernel
theorem i_156_224 : kI 156 224 = some (.iconst 1, 1) := by decide +kernel
theorem i_156_225 : kI 156 225 = some (.iadd, 1) := by decide +kernel
theorem i_156_226 : kI 156 226 = some (.iaload, 1) := by decide +kernel
theorem i_156_227 : kI 156 227 = some (.aload_n 0, 1) := by decide +kernel
theorem i_156_228 : kI 156 228 = some (.iload 4, 2) := by decide +kernel
theorem i_156_230 : kI 156 230 = some (.iconst 2, 1) := by decide +kernel
theorem i_156_231 : kI 156 231 = some (.iadd, 1) := by decide +kernel
theorem i_156_232 : kI 156 232 = some (.iaload, 1) := by decide +kernel
theorem i_156_233 : kI 156 233 = some (.invokestatic 74, 3) := by decide +kernel
theorem i_156_236 : kI 156 236 = some (.istore 5, 2) := by decide +kernel
theorem i_156_238 : kI 156 238 = some (.aload_n 2, 1) := by decide +kernel
theorem i_156_239 : kI 156 239 = some (.aload_n 0, 1) := by decide +kernel
theorem i_156_240 : kI 156 240 = some (.iload 4, 2) := by decide +kernel
theorem i_156_242 : kI 156 242 = some (.iconst 1, 1) := by decide +kernel
theorem i_156_243 : kI 156 243 = some (.iadd, 1) := by decide +kernel
theorem i_156_244 : kI 156 244 = some (.iaload, 1) := by decide +kernel
theorem i_156_245 : kI 156 245 = some (.aload_n 0, 1) := by decide +kernel
theorem i_156_246 : kI 156 246 = some (.iload 4, 2) := by decide +kernel
theorem i_156_248 : kI 156 248 = some (.iconst 2, 1) := by decide +kernel
theorem i_156_249 : kI 156 249 = some (.iadd, 1) := by decide +kernel
theorem i_156_250 : kI 156 250 = some (.iaload, 1) := by decide +kernel
theorem i_156_251 : kI 156 251 = some (.invokevirtual 76, 3) := by decide +kernel
theorem i_156_254 : kI 156 254 = some (.aload_n 2, 1) := by decide +kernel
theorem i_156_255 : kI 156 255 = some (.invokevirtual 67, 3) := by decide +kernel
theorem i_156_258 : kI 156 258 = some (.iload 5, 2) := by decide +kernel
theorem i_156_260 : kI 156 260 = some (.if_icmp .eq 5, 3) := by decide +kernel
theorem i_156_263 : kI 156 263 = some (.iconst 0, 1) := by decide +kernel
theorem i_156_264 : kI 156 264 = some (.ireturn, 1) := by decide +kernel
theorem i_156_265 : kI 156 265 = some (.goto 630, 3) := by decide +kernel
theorem i_156_268 : kI 156 268 = some (.aload_n 1, 1) := by decide +kernel
theorem i_156_269 : kI 156 269 = some (.aload_n 0, 1) := by decide +kernel
theorem i_156_270 : kI 156 270 = some (.iload 4, 2) := by decide +kernel
theorem i_156_272 : kI 156 272 = some (.iconst 1, 1) := by decide +kernel
theorem i_156_273 : kI 156 273 = some (.iadd, 1) := by decide +kernel
theorem i_156_274 : kI 156 274 = some (.iaload, 1) := by decide +kernel
theorem i_156_275 : kI 156 275 = some (.aload_n 3, 1) := by decide +kernel
theorem i_156_276 : kI 156 276 = some (.invokestatic 77, 3) := by decide +kernel
theorem i_156_279 : kI 156 279 = some (.istore 5, 2) := by decide +kernel
theorem i_156_281 : kI 156 281 = some (.aload_n 2, 1) := by decide +kernel
theorem i_156_282 : kI 156 282 = some (.aload_n 0, 1) := by decide +kernel
theorem i_156_283 : kI 156 283 = some (.iload 4, 2) := by decide +kernel
theorem i_156_285 : kI 156 285 = some (.iconst 1, 1) := by decide +kernel
theorem i_156_286 : kI 156 286 = some (.iadd, 1) := by decide +kernel
theorem i_156_287 : kI 156 287 = some (.iaload, 1) := by decide +kernel
theorem i_156_288 : kI 156 288 = some (.invokevirtual 79, 3) := by decide +kernel
theorem i_156_291 : kI 156 291 = some (.istore 6, 2) := by decide +kernel
theorem i_156_293 : kI 156 293 = some (.aload_n 2, 1) := by decide +kernel
theorem i_156_294 : kI 156 294 = some (.invokevirtual 67, 3) := by decide +kernel
theorem i_156_297 : kI 156 297 = some (.iload 5, 2) := by decide +kernel
theorem i_156_299 : kI 156 299 = some (.if_icmp .eq 5, 3) := by decide +kernel
theorem i_156_302 : kI 156 302 = some (.iconst 0, 1) := by decide +kernel
theorem i_156_303 : kI 156 303 = some (.ireturn, 1) := by decide +kernel
theorem i_156_304 : kI 156 304 = some (.iload 5, 2) := by decide +kernel
theorem i_156_306 : kI 156 306 = some (.ifCond .ne 15, 3) := by decide +kernel
theorem i_156_309 : kI 156 309 = some (.aload_n 3, 1) := by decide +kernel
theorem i_156_310 : kI 156 310 = some (.iconst 0, 1) := by decide +kernel
theorem i_156_311 : kI 156 311 = some (.laload, 1) := by decide +kernel
theorem i_156_312 : kI 156 312 = some (.iload 6, 2) := by decide +kernel
theorem i_156_314 : kI 156 314 = some (.i2l, 1) := by decide +kernel
theorem i_156_315 : kI 156 315 = some (.lcmp, 1) := by decide +kernel
theorem i_156_316 : kI 156 316 = some (.ifCond .eq 5, 3) := by decide +kernel
theorem i_156_319 : kI 156 319 = some (.iconst 0, 1) := by decide +kernel
theorem i_156_320 : kI 156 320 = some (.ireturn, 1) := by decide +kernel
theorem i_156_321 : kI 156 321 = some (.goto 574, 3) := by decide +kernel
theorem i_156_324 : kI 156 324 = some (.aload_n 1, 1) := by decide +kernel
theorem i_156_325 : kI 156 325 = some (.aload_n 0, 1) := by decide +kernel
theorem i_156_326 : kI 156 326 = some (.iload 4, 2) := by decide +kernel
theorem i_156_328 : kI 156 328 = some (.iconst 1, 1) := by decide +kernel
theorem i_156_329 : kI 156 329 = some (.iadd, 1) := by decide +kernel
theorem i_156_330 : kI 156 330 = some (.iaload, 1) := by decide +kernel
theorem i_156_331 : kI 156 331 = some (.aload_n 0, 1) := by decide +kernel
theorem i_156_332 : kI 156 332 = some (.iload 4, 2) := by decide +kernel
theorem i_156_334 : kI 156 334 = some (.iconst 2, 1) := by decide +kernel
theorem i_156_335 : kI 156 335 = some (.iadd, 1) := by decide +kernel
theorem i_156_336 : kI 156 336 = some (.iaload, 1) := by decide +kernel
theorem i_156_337 : kI 156 337 = some (.aload_n 0, 1) := by decide +kernel
theorem i_156_338 : kI 156 338 = some (.iload 4, 2) := by decide +kernel
theorem i_156_340 : kI 156 340 = some (.iconst 3, 1) := by decide +kernel
theorem i_156_341 : kI 156 341 = some (.iadd, 1) := by decide +kernel
theorem i_156_342 : kI 156 342 = some (.iaload, 1) := by decide +kernel
theorem i_156_343 : kI 156 343 = some (.aload_n 3, 1) := by decide +kernel
theorem i_156_344 : kI 156 344 = some (.invokestatic 80, 3) := by decide +kernel
theorem i_156_347 : kI 156 347 = some (.istore 5, 2) := by decide +kernel
theorem i_156_349 : kI 156 349 = some (.aload_n 2, 1) := by decide +kernel
theorem i_156_350 : kI 156 350 = some (.aload_n 0, 1) := by decide +kernel
theorem i_156_351 : kI 156 351 = some (.iload 4, 2) := by decide +kernel
theorem i_156_353 : kI 156 353 = some (.iconst 1, 1) := by decide +kernel
theorem i_156_354 : kI 156 354 = some (.iadd, 1) := by decide +kernel
theorem i_156_355 : kI 156 355 = some (.iaload, 1) := by decide +kernel
theorem i_156_356 : kI 156 356 = some (.aload_n 0, 1) := by decide +kernel
theorem i_156_357 : kI 156 357 = some (.iload 4, 2) := by decide +kernel
theorem i_156_359 : kI 156 359 = some (.iconst 2, 1) := by decide +kernel
theorem i_156_360 : kI 156 360 = some (.iadd, 1) := by decide +kernel
theorem i_156_361 : kI 156 361 = some (.iaload, 1) := by decide +kernel
theorem i_156_362 : kI 156 362 = some (.aload_n 0, 1) := by decide +kernel
theorem i_156_363 : kI 156 363 = some (.iload 4, 2) := by decide +kernel
theorem i_156_365 : kI 156 365 = some (.iconst 3, 1) := by decide +kernel
theorem i_156_366 : kI 156 366 = some (.iadd, 1) := by decide +kernel
theorem i_156_367 : kI 156 367 = some (.iaload, 1) := by decide +kernel
theorem i_156_368 : kI 156 368 = some (.invokevirtual 83, 3) := by decide +kernel
theorem i_156_371 : kI 156 371 = some (.istore 6, 2) := by decide +kernel
theorem i_156_373 : kI 156 373 = some (.aload_n 2, 1) := by decide +kernel
theorem i_156_374 : kI 156 374 = some (.invokevirtual 67, 3) := by decide +kernel
theorem i_156_377 : kI 156 377 = some (.iload 5, 2) := by decide +kernel
theorem i_156_379 : kI 156 379 = some (.if_icmp .eq 5, 3) := by decide +kernel
theorem i_156_382 : kI 156 382 = some (.iconst 0, 1) := by decide +kernel
theorem i_156_383 : kI 156 383 = some (.ireturn, 1) := by decide +kernel
theorem i_156_384 : kI 156 384 = some (.iload 5, 2) := by decide +kernel
theorem i_156_386 : kI 156 386 = some (.ifCond .ne 15, 3) := by decide +kernel
theorem i_156_389 : kI 156 389 = some (.aload_n 3, 1) := by decide +kernel
theorem i_156_390 : kI 156 390 = some (.iconst 0, 1) := by decide +kernel
theorem i_156_391 : kI 156 391 = some (.laload, 1) := by decide +kernel
theorem i_156_392 : kI 156 392 = some (.iload 6, 2) := by decide +kernel
theorem i_156_394 : kI 156 394 = some (.i2l, 1) := by decide +kernel
theorem i_156_395 : kI 156 395 = some (.lcmp, 1) := by decide +kernel
theorem i_156_396 : kI 156 396 = some (.ifCond .eq 5, 3) := by decide +kernel
theorem i_156_399 : kI 156 399 = some (.iconst 0, 1) := by decide +kernel
theorem i_156_400 : kI 156 400 = some (.ireturn, 1) := by decide +kernel
theorem i_156_401 : kI 156 401 = some (.goto 494, 3) := by decide +kernel
theorem i_156_404 : kI 156 404 = some (.aload_n 1, 1) := by decide +kernel
theorem i_156_405 : kI 156 405 = some (.aload_n 0, 1) := by decide +kernel
theorem i_156_406 : kI 156 406 = some (.iload 4, 2) := by decide +kernel
theorem i_156_408 : kI 156 408 = some (.iconst 1, 1) := by decide +kernel
theorem i_156_409 : kI 156 409 = some (.iadd, 1) := by decide +kernel
theorem i_156_410 : kI 156 410 = some (.iaload, 1) := by decide +kernel
theorem i_156_411 : kI 156 411 = some (.aload_n 0, 1) := by decide +kernel
theorem i_156_412 : kI 156 412 = some (.iload 4, 2) := by decide +kernel
theorem i_156_414 : kI 156 414 = some (.iconst 2, 1) := by decide +kernel
theorem i_156_415 : kI 156 415 = some (.iadd, 1) := by decide +kernel
theorem i_156_416 : kI 156 416 = some (.iaload, 1) := by decide +kernel
theorem i_156_417 : kI 156 417 = some (.aload_n 0, 1) := by decide +kernel
theorem i_156_418 : kI 156 418 = some (.iload 4, 2) := by decide +kernel
theorem i_156_420 : kI 156 420 = some (.iconst 3, 1) := by decide +kernel
theorem i_156_421 : kI 156 421 = some (.iadd, 1) := by decide +kernel
theorem i_156_422 : kI 156 422 = some (.iaload, 1) := by decide +kernel
theorem i_156_423 : kI 156 423 = some (.aload_n 0, 1) := by decide +kernel
theorem i_156_424 : kI 156 424 = some (.iload 4, 2) := by decide +kernel
theorem i_156_426 : kI 156 426 = some (.iconst 4, 1) := by decide +kernel
theorem i_156_427 : kI 156 427 = some (.iadd, 1) := by decide +kernel
theorem i_156_428 : kI 156 428 = some (.iaload, 1) := by decide +kernel
theorem i_156_429 : kI 156 429 = some (.aload_n 3, 1) := by decide +kernel
theorem i_156_430 : kI 156 430 = some (.invokestatic 84, 3) := by decide +kernel
theorem i_156_433 : kI 156 433 = some (.istore 5, 2) := by decide +kernel
theorem i_156_435 : kI 156 435 = some (.aload_n 2, 1) := by decide +kernel
theorem i_156_436 : kI 156 436 = some (.aload_n 0, 1) := by decide +kernel
theorem i_156_437 : kI 156 437 = some (.iload 4, 2) := by decide +kernel
theorem i_156_439 : kI 156 439 = some (.iconst 1, 1) := by decide +kernel
theorem i_156_440 : kI 156 440 = some (.iadd, 1) := by decide +kernel
theorem i_156_441 : kI 156 441 = some (.iaload, 1) := by decide +kernel
theorem i_156_442 : kI 156 442 = some (.aload_n 0, 1) := by decide +kernel
theorem i_156_443 : kI 156 443 = some (.iload 4, 2) := by decide +kernel
theorem i_156_445 : kI 156 445 = some (.iconst 2, 1) := by decide +kernel
theorem i_156_446 : kI 156 446 = some (.iadd, 1) := by decide +kernel
theorem i_156_447 : kI 156 447 = some (.iaload, 1) := by decide +kernel
theorem i_156_448 : kI 156 448 = some (.aload_n 0, 1) := by decide +kernel
theorem i_156_449 : kI 156 449 = some (.iload 4, 2) := by decide +kernel
theorem i_156_451 : kI 156 451 = some (.iconst 3, 1) := by decide +kernel
theorem i_156_452 : kI 156 452 = some (.iadd, 1) := by decide +kernel
theorem i_156_453 : kI 156 453 = some (.iaload, 1) := by decide +kernel
theorem i_156_454 : kI 156 454 = some (.aload_n 0, 1) := by decide +kernel
theorem i_156_455 : kI 156 455 = some (.iload 4, 2) := by decide +kernel
theorem i_156_457 : kI 156 457 = some (.iconst 4, 1) := by decide +kernel
theorem i_156_458 : kI 156 458 = some (.iadd, 1) := by decide +kernel
theorem i_156_459 : kI 156 459 = some (.iaload, 1) := by decide +kernel
theorem i_156_460 : kI 156 460 = some (.invokevirtual 87, 3) := by decide +kernel
theorem i_156_463 : kI 156 463 = some (.istore 6, 2) := by decide +kernel
theorem i_156_465 : kI 156 465 = some (.aload_n 2, 1) := by decide +kernel
theorem i_156_466 : kI 156 466 = some (.invokevirtual 67, 3) := by decide +kernel
theorem i_156_469 : kI 156 469 = some (.iload 5, 2) := by decide +kernel
theorem i_156_471 : kI 156 471 = some (.if_icmp .eq 5, 3) := by decide +kernel
theorem i_156_474 : kI 156 474 = some (.iconst 0, 1) := by decide +kernel
theorem i_156_475 : kI 156 475 = some (.ireturn, 1) := by decide +kernel
theorem i_156_476 : kI 156 476 = some (.iload 5, 2) := by decide +kernel
theorem i_156_478 : kI 156 478 = some (.ifCond .ne 15, 3) := by decide +kernel
theorem i_156_481 : kI 156 481 = some (.aload_n 3, 1) := by decide +kernel
theorem i_156_482 : kI 156 482 = some (.iconst 0, 1) := by decide +kernel
theorem i_156_483 : kI 156 483 = some (.laload, 1) := by decide +kernel
theorem i_156_484 : kI 156 484 = some (.iload 6, 2) := by decide +kernel
theorem i_156_486 : kI 156 486 = some (.i2l, 1) := by decide +kernel
theorem i_156_487 : kI 156 487 = some (.lcmp, 1) := by decide +kernel
theorem i_156_488 : kI 156 488 = some (.ifCond .eq 5, 3) := by decide +kernel
theorem i_156_491 : kI 156 491 = some (.iconst 0, 1) := by decide +kernel
theorem i_156_492 : kI 156 492 = some (.ireturn, 1) := by decide +kernel
theorem i_156_493 : kI 156 493 = some (.goto 402, 3) := by decide +kernel
theorem i_156_496 : kI 156 496 = some (.aload_n 1, 1) := by decide +kernel
theorem i_156_497 : kI 156 497 = some (.invokestatic 88, 3) := by decide +kernel
theorem i_156_500 : kI 156 500 = some (.istore 5, 2) := by decide +kernel
theorem i_156_502 : kI 156 502 = some (.aload_n 2, 1) := by decide +kernel
theorem i_156_503 : kI 156 503 = some (.invokevirtual 91, 3) := by decide +kernel
theorem i_156_506 : kI 156 506 = some (.aload_n 2, 1) := by decide +kernel
theorem i_156_507 : kI 156 507 = some (.invokevirtual 67, 3) := by decide +kernel
theorem i_156_510 : kI 156 510 = some (.iload 5, 2) := by decide +kernel
theorem i_156_512 : kI 156 512 = some (.if_icmp .eq 5, 3) := by decide +kernel
theorem i_156_515 : kI 156 515 = some (.iconst 0, 1) := by decide +kernel
theorem i_156_516 : kI 156 516 = some (.ireturn, 1) := by decide +kernel
theorem i_156_517 : kI 156 517 = some (.goto 378, 3) := by decide +kernel
theorem i_156_520 : kI 156 520 = some (.aload_n 1, 1) := by decide +kernel
theorem i_156_521 : kI 156 521 = some (.aload_n 3, 1) := by decide +kernel
theorem i_156_522 : kI 156 522 = some (.invokestatic 92, 3) := by decide +kernel
theorem i_156_525 : kI 156 525 = some (.istore 5, 2) := by decide +kernel
theorem i_156_527 : kI 156 527 = some (.aload_n 2, 1) := by decide +kernel
theorem i_156_528 : kI 156 528 = some (.invokevirtual 95, 3) := by decide +kernel
theorem i_156_531 : kI 156 531 = some (.istore 6, 2) := by decide +kernel
theorem i_156_533 : kI 156 533 = some (.aload_n 2, 1) := by decide +kernel
theorem i_156_534 : kI 156 534 = some (.invokevirtual 67, 3) := by decide +kernel
theorem i_156_537 : kI 156 537 = some (.iload 5, 2) := by decide +kernel
theorem i_156_539 : kI 156 539 = some (.if_icmp .eq 5, 3) := by decide +kernel
theorem i_156_542 : kI 156 542 = some (.iconst 0, 1) := by decide +kernel
theorem i_156_543 : kI 156 543 = some (.ireturn, 1) := by decide +kernel
theorem i_156_544 : kI 156 544 = some (.iload 5, 2) := by decide +kernel
theorem i_156_546 : kI 156 546 = some (.ifCond .ne 15, 3) := by decide +kernel
theorem i_156_549 : kI 156 549 = some (.aload_n 3, 1) := by decide +kernel
theorem i_156_550 : kI 156 550 = some (.iconst 0, 1) := by decide +kernel
theorem i_156_551 : kI 156 551 = some (.laload, 1) := by decide +kernel
theorem i_156_552 : kI 156 552 = some (.iload 6, 2) := by decide +kernel
theorem i_156_554 : kI 156 554 = some (.i2l, 1) := by decide +kernel
theorem i_156_555 : kI 156 555 = some (.lcmp, 1) := by decide +kernel
theorem i_156_556 : kI 156 556 = some (.ifCond .eq 5, 3) := by decide +kernel
theorem i_156_559 : kI 156 559 = some (.iconst 0, 1) := by decide +kernel
theorem i_156_560 : kI 156 560 = some (.ireturn, 1) := by decide +kernel
theorem i_156_561 : kI 156 561 = some (.goto 334, 3) := by decide +kernel
theorem i_156_564 : kI 156 564 = some (.aload_n 1, 1) := by decide +kernel
theorem i_156_565 : kI 156 565 = some (.aload_n 3, 1) := by decide +kernel
theorem i_156_566 : kI 156 566 = some (.invokestatic 96, 3) := by decide +kernel
theorem i_156_569 : kI 156 569 = some (.istore 5, 2) := by decide +kernel
theorem i_156_571 : kI 156 571 = some (.aload_n 2, 1) := by decide +kernel
theorem i_156_572 : kI 156 572 = some (.invokevirtual 98, 3) := by decide +kernel
theorem i_156_575 : kI 156 575 = some (.istore 6, 2) := by decide +kernel
theorem i_156_577 : kI 156 577 = some (.aload_n 2, 1) := by decide +kernel
theorem i_156_578 : kI 156 578 = some (.invokevirtual 67, 3) := by decide +kernel
theorem i_156_581 : kI 156 581 = some (.iload 5, 2) := by decide +kernel
theorem i_156_583 : kI 156 583 = some (.if_icmp .eq 5, 3) := by decide +kernel
theorem i_156_586 : kI 156 586 = some (.iconst 0, 1) := by decide +kernel
theorem i_156_587 : kI 156 587 = some (.ireturn, 1) := by decide +kernel
theorem i_156_588 : kI 156 588 = some (.iload 5, 2) := by decide +kernel
theorem i_156_590 : kI 156 590 = some (.ifCond .ne 15, 3) := by decide +kernel
theorem i_156_593 : kI 156 593 = some (.aload_n 3, 1) := by decide +kernel
theorem i_156_594 : kI 156 594 = some (.iconst 0, 1) := by decide +kernel
theorem i_156_595 : kI 156 595 = some (.laload, 1) := by decide +kernel
theorem i_156_596 : kI 156 596 = some (.iload 6, 2) := by decide +kernel
theorem i_156_598 : kI 156 598 = some (.i2l, 1) := by decide +kernel
theorem i_156_599 : kI 156 599 = some (.lcmp, 1) := by decide +kernel
theorem i_156_600 : kI 156 600 = some (.ifCond .eq 5, 3) := by decide +kernel
theorem i_156_603 : kI 156 603 = some (.iconst 0, 1) := by decide +kernel
theorem i_156_604 : kI 156 604 = some (.ireturn, 1) := by decide +kernel
theorem i_156_605 : kI 156 605 = some (.goto 290, 3) := by decide +kernel
theorem i_156_608 : kI 156 608 = some (.aload_n 1, 1) := by decide +kernel
theorem i_156_609 : kI 156 609 = some (.aload_n 0, 1) := by decide +kernel
theorem i_156_610 : kI 156 610 = some (.iload 4, 2) := by decide +kernel
theorem i_156_612 : kI 156 612 = some (.iconst 1, 1) := by decide +kernel
theorem i_156_613 : kI 156 613 = some (.iadd, 1) := by decide +kernel
theorem i_156_614 : kI 156 614 = some (.iaload, 1) := by decide +kernel
theorem i_156_615 : kI 156 615 = some (.aload_n 0, 1) := by decide +kernel
theorem i_156_616 : kI 156 616 = some (.iload 4, 2) := by decide +kernel
theorem i_156_618 : kI 156 618 = some (.iconst 2, 1) := by decide +kernel
theorem i_156_619 : kI 156 619 = some (.iadd, 1) := by decide +kernel
theorem i_156_620 : kI 156 620 = some (.iaload, 1) := by decide +kernel
theorem i_156_621 : kI 156 621 = some (.aload_n 0, 1) := by decide +kernel
theorem i_156_622 : kI 156 622 = some (.iload 4, 2) := by decide +kernel
theorem i_156_624 : kI 156 624 = some (.iconst 3, 1) := by decide +kernel
theorem i_156_625 : kI 156 625 = some (.iadd, 1) := by decide +kernel
theorem i_156_626 : kI 156 626 = some (.iaload, 1) := by decide +kernel
theorem i_156_627 : kI 156 627 = some (.aload_n 3, 1) := by decide +kernel
theorem i_156_628 : kI 156 628 = some (.invokestatic 99, 3) := by decide +kernel
theorem i_156_631 : kI 156 631 = some (.istore 5, 2) := by decide +kernel
theorem i_156_633 : kI 156 633 = some (.aload_n 2, 1) := by decide +kernel
theorem i_156_634 : kI 156 634 = some (.aload_n 0, 1) := by decide +kernel
theorem i_156_635 : kI 156 635 = some (.iload 4, 2) := by decide +kernel
theorem i_156_637 : kI 156 637 = some (.iconst 1, 1) := by decide +kernel
theorem i_156_638 : kI 156 638 = some (.iadd, 1) := by decide +kernel
theorem i_156_639 : kI 156 639 = some (.iaload, 1) := by decide +kernel
theorem i_156_640 : kI 156 640 = some (.aload_n 0, 1) := by decide +kernel
theorem i_156_641 : kI 156 641 = some (.iload 4, 2) := by decide +kernel
theorem i_156_643 : kI 156 643 = some (.iconst 2, 1) := by decide +kernel
theorem i_156_644 : kI 156 644 = some (.iadd, 1) := by decide +kernel
theorem i_156_645 : kI 156 645 = some (.iaload, 1) := by decide +kernel
theorem i_156_646 : kI 156 646 = some (.aload_n 0, 1) := by decide +kernel
theorem i_156_647 : kI 156 647 = some (.iload 4, 2) := by decide +kernel
theorem i_156_649 : kI 156 649 = some (.iconst 3, 1) := by decide +kernel
theorem i_156_650 : kI 156 650 = some (.iadd, 1) := by decide +kernel
theorem i_156_651 : kI 156 651 = some (.iaload, 1) := by decide +kernel
theorem i_156_652 : kI 156 652 = some (.invokevirtual 101, 3) := by decide +kernel
theorem i_156_655 : kI 156 655 = some (.istore 6, 2) := by decide +kernel
theorem i_156_657 : kI 156 657 = some (.aload_n 2, 1) := by decide +kernel
theorem i_156_658 : kI 156 658 = some (.invokevirtual 67, 3) := by decide +kernel
theorem i_156_661 : kI 156 661 = some (.iload 5, 2) := by decide +kernel
theorem i_156_663 : kI 156 663 = some (.if_icmp .eq 5, 3) := by decide +kernel
theorem i_156_666 : kI 156 666 = some (.iconst 0, 1) := by decide +kernel
theorem i_156_667 : kI 156 667 = some (.ireturn, 1) := by decide +kernel
theorem i_156_668 : kI 156 668 = some (.iload 5, 2) := by decide +kernel
theorem i_156_670 : kI 156 670 = some (.ifCond .ne 15, 3) := by decide +kernel
theorem i_156_673 : kI 156 673 = some (.aload_n 3, 1) := by decide +kernel
theorem i_156_674 : kI 156 674 = some (.iconst 0, 1) := by decide +kernel
theorem i_156_675 : kI 156 675 = some (.laload, 1) := by decide +kernel
theorem i_156_676 : kI 156 676 = some (.iload 6, 2) := by decide +kernel
theorem i_156_678 : kI 156 678 = some (.i2l, 1) := by decide +kernel
theorem i_156_679 : kI 156 679 = some (.lcmp, 1) := by decide +kernel
theorem i_156_680 : kI 156 680 = some (.ifCond .eq 5, 3) := by decide +kernel
theorem i_156_683 : kI 156 683 = some (.iconst 0, 1) := by decide +kernel
theorem i_156_684 : kI 156 684 = some (.ireturn, 1) := by decide +kernel
theorem i_156_685 : kI 156 685 = some (.goto 210, 3) := by decide +kernel
theorem i_156_688 : kI 156 688 = some (.aload_n 1, 1) := by decide +kernel
theorem i_156_689 : kI 156 689 = some (.aload_n 0, 1) := by decide +kernel
theorem i_156_690 : kI 156 690 = some (.iload 4, 2) := by decide +kernel
theorem i_156_692 : kI 156 692 = some (.iconst 1, 1) := by decide +kernel
theorem i_156_693 : kI 156 693 = some (.iadd, 1) := by decide +kernel
theorem i_156_694 : kI 156 694 = some (.iaload, 1) := by decide +kernel
theorem i_156_695 : kI 156 695 = some (.aload_n 3, 1) := by decide +kernel
theorem i_156_696 : kI 156 696 = some (.invokestatic 102, 3) := by decide +kernel
theorem i_156_699 : kI 156 699 = some (.istore 5, 2) := by decide +kernel
theorem i_156_701 : kI 156 701 = some (.aload_n 2, 1) := by decide +kernel
theorem i_156_702 : kI 156 702 = some (.aload_n 0, 1) := by decide +kernel
theorem i_156_703 : kI 156 703 = some (.iload 4, 2) := by decide +kernel
theorem i_156_705 : kI 156 705 = some (.iconst 1, 1) := by decide +kernel
theorem i_156_706 : kI 156 706 = some (.iadd, 1) := by decide +kernel
theorem i_156_707 : kI 156 707 = some (.iaload, 1) := by decide +kernel
theorem i_156_708 : kI 156 708 = some (.invokevirtual 104, 3) := by decide +kernel
theorem i_156_711 : kI 156 711 = some (.istore 6, 2) := by decide +kernel
theorem i_156_713 : kI 156 713 = some (.aload_n 2, 1) := by decide +kernel
theorem i_156_714 : kI 156 714 = some (.invokevirtual 67, 3) := by decide +kernel
theorem i_156_717 : kI 156 717 = some (.iload 5, 2) := by decide +kernel
theorem i_156_719 : kI 156 719 = some (.if_icmp .eq 5, 3) := by decide +kernel
theorem i_156_722 : kI 156 722 = some (.iconst 0, 1) := by decide +kernel
theorem i_156_723 : kI 156 723 = some (.ireturn, 1) := by decide +kernel
theorem i_156_724 : kI 156 724 = some (.iload 5, 2) := by decide +kernel
theorem i_156_726 : kI 156 726 = some (.ifCond .ne 15, 3) := by decide +kernel
theorem i_156_729 : kI 156 729 = some (.aload_n 3, 1) := by decide +kernel
theorem i_156_730 : kI 156 730 = some (.iconst 0, 1) := by decide +kernel
theorem i_156_731 : kI 156 731 = some (.laload, 1) := by decide +kernel
theorem i_156_732 : kI 156 732 = some (.iload 6, 2) := by decide +kernel
theorem i_156_734 : kI 156 734 = some (.i2l, 1) := by decide +kernel
theorem i_156_735 : kI 156 735 = some (.lcmp, 1) := by decide +kernel
theorem i_156_736 : kI 156 736 = some (.ifCond .eq 5, 3) := by decide +kernel
theorem i_156_739 : kI 156 739 = some (.iconst 0, 1) := by decide +kernel
theorem i_156_740 : kI 156 740 = some (.ireturn, 1) := by decide +kernel
theorem i_156_741 : kI 156 741 = some (.goto 154, 3) := by decide +kernel
theorem i_156_744 : kI 156 744 = some (.aload_n 1, 1) := by decide +kernel
theorem i_156_745 : kI 156 745 = some (.aload_n 3, 1) := by decide +kernel
theorem i_156_746 : kI 156 746 = some (.invokestatic 105, 3) := by decide +kernel
theorem i_156_749 : kI 156 749 = some (.istore 5, 2) := by decide +kernel
theorem i_156_751 : kI 156 751 = some (.aload_n 2, 1) := by decide +kernel
theorem i_156_752 : kI 156 752 = some (.invokevirtual 107, 3) := by decide +kernel
theorem i_156_755 : kI 156 755 = some (.istore 6, 2) := by decide +kernel
theorem i_156_757 : kI 156 757 = some (.aload_n 2, 1) := by decide +kernel
theorem i_156_758 : kI 156 758 = some (.invokevirtual 67, 3) := by decide +kernel
theorem i_156_761 : kI 156 761 = some (.iload 5, 2) := by decide +kernel
theorem i_156_763 : kI 156 763 = some (.if_icmp .eq 5, 3) := by decide +kernel
theorem i_156_766 : kI 156 766 = some (.iconst 0, 1) := by decide +kernel
theorem i_156_767 : kI 156 767 = some (.ireturn, 1) := by decide +kernel
theorem i_156_768 : kI 156 768 = some (.iload 5, 2) := by decide +kernel
theorem i_156_770 : kI 156 770 = some (.ifCond .ne 15, 3) := by decide +kernel
theorem i_156_773 : kI 156 773 = some (.aload_n 3, 1) := by decide +kernel
theorem i_156_774 : kI 156 774 = some (.iconst 0, 1) := by decide +kernel
theorem i_156_775 : kI 156 775 = some (.laload, 1) := by decide +kernel
theorem i_156_776 : kI 156 776 = some (.iload 6, 2) := by decide +kernel
theorem i_156_778 : kI 156 778 = some (.i2l, 1) := by decide +kernel
theorem i_156_779 : kI 156 779 = some (.lcmp, 1) := by decide +kernel
theorem i_156_780 : kI 156 780 = some (.ifCond .eq 5, 3) := by decide +kernel
theorem i_156_783 : kI 156 783 = some (.iconst 0, 1) := by decide +kernel
theorem i_156_784 : kI 156 784 = some (.ireturn, 1) := by decide +kernel
theorem i_156_785 : kI 156 785 = some (.goto 110, 3) := by decide +kernel
theorem i_156_788 : kI 156 788 = some (.aload_n 1, 1) := by decide +kernel
theorem i_156_789 : kI 156 789 = some (.invokevirtual 108, 3) := by decide +kernel
theorem i_156_792 : kI 156 792 = some (.aload_n 2, 1) := by decide +kernel
theorem i_156_793 : kI 156 793 = some (.invokevirtual 111, 3) := by decide +kernel
theorem i_156_796 : kI 156 796 = some (.if_icmp .eq 99, 3) := by decide +kernel
theorem i_156_799 : kI 156 799 = some (.iconst 0, 1) := by decide +kernel
theorem i_156_800 : kI 156 800 = some (.ireturn, 1) := by decide +kernel
theorem i_156_801 : kI 156 801 = some (.aload_n 1, 1) := by decide +kernel
theorem i_156_802 : kI 156 802 = some (.aload_n 0, 1) := by decide +kernel
theorem i_156_803 : kI 156 803 = some (.iload 4, 2) := by decide +kernel
theorem i_156_805 : kI 156 805 = some (.iconst 1, 1) := by decide +kernel
theorem i_156_806 : kI 156 806 = some (.iadd, 1) := by decide +kernel
theorem i_156_807 : kI 156 807 = some (.iaload, 1) := by decide +kernel
theorem i_156_808 : kI 156 808 = some (.aload_n 3, 1) := by decide +kernel
theorem i_156_809 : kI 156 809 = some (.invokestatic 112, 3) := by decide +kernel
theorem i_156_812 : kI 156 812 = some (.istore 5, 2) := by decide +kernel
theorem i_156_814 : kI 156 814 = some (.aload_n 2, 1) := by decide +kernel
theorem i_156_815 : kI 156 815 = some (.aload_n 0, 1) := by decide +kernel
theorem i_156_816 : kI 156 816 = some (.iload 4, 2) := by decide +kernel
theorem i_156_818 : kI 156 818 = some (.iconst 1, 1) := by decide +kernel
theorem i_156_819 : kI 156 819 = some (.iadd, 1) := by decide +kernel
theorem i_156_820 : kI 156 820 = some (.iaload, 1) := by decide +kernel
theorem i_156_821 : kI 156 821 = some (.invokevirtual 114, 3) := by decide +kernel
theorem i_156_824 : kI 156 824 = some (.istore 6, 2) := by decide +kernel
theorem i_156_826 : kI 156 826 = some (.aload_n 2, 1) := by decide +kernel
theorem i_156_827 : kI 156 827 = some (.invokevirtual 67, 3) := by decide +kernel
theorem i_156_830 : kI 156 830 = some (.iload 5, 2) := by decide +kernel
theorem i_156_832 : kI 156 832 = some (.if_icmp .eq 5, 3) := by decide +kernel
theorem i_156_835 : kI 156 835 = some (.iconst 0, 1) := by decide +kernel
theorem i_156_836 : kI 156 836 = some (.ireturn, 1) := by decide +kernel
theorem i_156_837 : kI 156 837 = some (.iload 5, 2) := by decide +kernel
theorem i_156_839 : kI 156 839 = some (.ifCond .ne 15, 3) := by decide +kernel
theorem i_156_842 : kI 156 842 = some (.aload_n 3, 1) := by decide +kernel
theorem i_156_843 : kI 156 843 = some (.iconst 0, 1) := by decide +kernel
theorem i_156_844 : kI 156 844 = some (.laload, 1) := by decide +kernel
theorem i_156_845 : kI 156 845 = some (.iload 6, 2) := by decide +kernel
theorem i_156_847 : kI 156 847 = some (.i2l, 1) := by decide +kernel
theorem i_156_848 : kI 156 848 = some (.lcmp, 1) := by decide +kernel
theorem i_156_849 : kI 156 849 = some (.ifCond .eq 5, 3) := by decide +kernel
theorem i_156_852 : kI 156 852 = some (.iconst 0, 1) := by decide +kernel
theorem i_156_853 : kI 156 853 = some (.ireturn, 1) := by decide +kernel
theorem i_156_854 : kI 156 854 = some (.goto 41, 3) := by decide +kernel
theorem i_156_857 : kI 156 857 = some (.aload_n 1, 1) := by decide +kernel
theorem i_156_858 : kI 156 858 = some (.aload_n 0, 1) := by decide +kernel
theorem i_156_859 : kI 156 859 = some (.iload 4, 2) := by decide +kernel
theorem i_156_861 : kI 156 861 = some (.iconst 1, 1) := by decide +kernel
theorem i_156_862 : kI 156 862 = some (.iadd, 1) := by decide +kernel
theorem i_156_863 : kI 156 863 = some (.iaload, 1) := by decide +kernel
theorem i_156_864 : kI 156 864 = some (.invokevirtual 115, 3) := by decide +kernel
theorem i_156_867 : kI 156 867 = some (.aload_n 2, 1) := by decide +kernel
theorem i_156_868 : kI 156 868 = some (.aload_n 0, 1) := by decide +kernel
theorem i_156_869 : kI 156 869 = some (.iload 4, 2) := by decide +kernel
theorem i_156_871 : kI 156 871 = some (.iconst 1, 1) := by decide +kernel
theorem i_156_872 : kI 156 872 = some (.iadd, 1) := by decide +kernel
theorem i_156_873 : kI 156 873 = some (.iaload, 1) := by decide +kernel
theorem i_156_874 : kI 156 874 = some (.invokevirtual 118, 3) := by decide +kernel
theorem i_156_877 : kI 156 877 = some (.if_icmp .eq 18, 3) := by decide +kernel
theorem i_156_880 : kI 156 880 = some (.iconst 0, 1) := by decide +kernel
theorem i_156_881 : kI 156 881 = some (.ireturn, 1) := by decide +kernel
theorem i_156_882 : kI 156 882 = some (.aload_n 1, 1) := by decide +kernel
theorem i_156_883 : kI 156 883 = some (.invokevirtual 119, 3) := by decide +kernel
theorem i_156_886 : kI 156 886 = some (.aload_n 2, 1) := by decide +kernel
theorem i_156_887 : kI 156 887 = some (.invokevirtual 122, 3) := by decide +kernel
theorem i_156_890 : kI 156 890 = some (.if_icmp .eq 5, 3) := by decide +kernel
theorem i_156_893 : kI 156 893 = some (.iconst 0, 1) := by decide +kernel
theorem i_156_894 : kI 156 894 = some (.ireturn, 1) := by decide +kernel
theorem i_156_895 : kI 156 895 = some (.iinc 4 5, 3) := by decide +kernel
theorem i_156_898 : kI 156 898 = some (.goto (-875), 3) := by decide +kernel
theorem i_156_901 : kI 156 901 = some (.iconst 1, 1) := by decide +kernel
theorem i_156_902 : kI 156 902 = some (.ireturn, 1) := by decide +kernel
theorem i_157_0 : kI 157 0 = some (.iload_n 0, 1) := by decide +kernel
theorem i_157_1 : kI 157 1 = some (.iload_n 1, 1) := by decide +kernel
theorem i_157_2 : kI 157 2 = some (.idiv, 1) := by decide +kernel
theorem i_157_3 : kI 157 3 = some (.istore_n 2, 1) := by decide +kernel
theorem i_157_4 : kI 157 4 = some (.iload_n 0, 1) := by decide +kernel
theorem i_157_5 : kI 157 5 = some (.iload_n 1, 1) := by decide +kernel
theorem i_157_6 : kI 157 6 = some (.ixor, 1) := by decide +kernel
theorem i_157_7 : kI 157 7 = some (.ifCond .ge 14, 3) := by decide +kernel
theorem i_157_10 : kI 157 10 = some (.iload_n 2, 1) := by decide +kernel
theorem i_157_11 : kI 157 11 = some (.iload_n 1, 1) := by decide +kernel
theorem i_157_12 : kI 157 12 = some (.imul, 1) := by decide +kernel
theorem i_157_13 : kI 157 13 = some (.iload_n 0, 1) := by decide +kernel
theorem i_157_14 : kI 157 14 = some (.if_icmp .eq 7, 3) := by decide +kernel
theorem i_157_17 : kI 157 17 = some (.iload_n 2, 1) := by decide +kernel
theorem i_157_18 : kI 157 18 = some (.iconst 1, 1) := by decide +kernel
theorem i_157_19 : kI 157 19 = some (.isub, 1) := by decide +kernel
theorem i_157_20 : kI 157 20 = some (.ireturn, 1) := by decide +kernel
theorem i_157_21 : kI 157 21 = some (.iload_n 2, 1) := by decide +kernel
theorem i_157_22 : kI 157 22 = some (.ireturn, 1) := by decide +kernel
theorem i_158_0 : kI 158 0 = some (.iload_n 0, 1) := by decide +kernel
theorem i_158_1 : kI 158 1 = some (.iload_n 1, 1) := by decide +kernel
theorem i_158_2 : kI 158 2 = some (.irem, 1) := by decide +kernel
theorem i_158_3 : kI 158 3 = some (.istore_n 2, 1) := by decide +kernel
theorem i_158_4 : kI 158 4 = some (.iload_n 0, 1) := by decide +kernel
theorem i_158_5 : kI 158 5 = some (.iload_n 1, 1) := by decide +kernel
theorem i_158_6 : kI 158 6 = some (.ixor, 1) := by decide +kernel
theorem i_158_7 : kI 158 7 = some (.ifCond .ge 11, 3) := by decide +kernel
theorem i_158_10 : kI 158 10 = some (.iload_n 2, 1) := by decide +kernel
theorem i_158_11 : kI 158 11 = some (.ifCond .eq 7, 3) := by decide +kernel
theorem i_158_14 : kI 158 14 = some (.iload_n 2, 1) := by decide +kernel
theorem i_158_15 : kI 158 15 = some (.iload_n 1, 1) := by decide +kernel
theorem i_158_16 : kI 158 16 = some (.iadd, 1) := by decide +kernel
theorem i_158_17 : kI 158 17 = some (.ireturn, 1) := by decide +kernel
theorem i_158_18 : kI 158 18 = some (.iload_n 2, 1) := by decide +kernel
theorem i_158_19 : kI 158 19 = some (.ireturn, 1) := by decide +kernel
