theorem i_93_0 : kI 93 0 = some (.aload_n 0, 1) := by decide +kernel
theorem i_93_1 : kI 93 1 = some (.invokespecial 1, 3) := by decide +kernel
theorem i_93_4 : kI 93 4 = some (.aload_n 0, 1) := by decide +kernel
theorem i_93_5 : kI 93 5 = some (.bipush 6, 2) := by decide +kernel
theorem i_93_7 : kI 93 7 = some (.newarray .int, 2) := by decide +kernel
theorem i_93_9 : kI 93 9 = some (.putfield 7, 3) := by decide +kernel
theorem i_93_12 : kI 93 12 = some (.aload_n 0, 1) := by decide +kernel
theorem i_93_13 : kI 93 13 = some (.bipush 36, 2) := by decide +kernel
theorem i_93_15 : kI 93 15 = some (.newarray .boolean, 2) := by decide +kernel
theorem i_93_17 : kI 93 17 = some (.putfield 13, 3) := by decide +kernel
theorem i_93_20 : kI 93 20 = some (.aload_n 0, 1) := by decide +kernel
theorem i_93_21 : kI 93 21 = some (.bipush 6, 2) := by decide +kernel
theorem i_93_23 : kI 93 23 = some (.newarray .int, 2) := by decide +kernel
theorem i_93_25 : kI 93 25 = some (.putfield 17, 3) := by decide +kernel
theorem i_93_28 : kI 93 28 = some (.aload_n 0, 1) := by decide +kernel
theorem i_93_29 : kI 93 29 = some (.sipush 1440, 3) := by decide +kernel
theorem i_93_32 : kI 93 32 = some (.newarray .int, 2) := by decide +kernel
theorem i_93_34 : kI 93 34 = some (.putfield 20, 3) := by decide +kernel
theorem i_93_37 : kI 93 37 = some (.aload_n 0, 1) := by decide +kernel
theorem i_93_38 : kI 93 38 = some (.bipush 6, 2) := by decide +kernel
theorem i_93_40 : kI 93 40 = some (.newarray .int, 2) := by decide +kernel
theorem i_93_42 : kI 93 42 = some (.putfield 23, 3) := by decide +kernel
theorem i_93_45 : kI 93 45 = some (.aload_n 0, 1) := by decide +kernel
theorem i_93_46 : kI 93 46 = some (.bipush 6, 2) := by decide +kernel
theorem i_93_48 : kI 93 48 = some (.newarray .int, 2) := by decide +kernel
theorem i_93_50 : kI 93 50 = some (.putfield 26, 3) := by decide +kernel
theorem i_93_53 : kI 93 53 = some (.aload_n 0, 1) := by decide +kernel
theorem i_93_54 : kI 93 54 = some (.sipush 1440, 3) := by decide +kernel
theorem i_93_57 : kI 93 57 = some (.newarray .int, 2) := by decide +kernel
theorem i_93_59 : kI 93 59 = some (.putfield 29, 3) := by decide +kernel
theorem i_93_62 : kI 93 62 = some (.aload_n 0, 1) := by decide +kernel
theorem i_93_63 : kI 93 63 = some (.bipush 60, 2) := by decide +kernel
theorem i_93_65 : kI 93 65 = some (.newarray .int, 2) := by decide +kernel
theorem i_93_67 : kI 93 67 = some (.putfield 32, 3) := by decide +kernel
theorem i_93_70 : kI 93 70 = some (.aload_n 0, 1) := by decide +kernel
theorem i_93_71 : kI 93 71 = some (.bipush 60, 2) := by decide +kernel
theorem i_93_73 : kI 93 73 = some (.newarray .int, 2) := by decide +kernel
theorem i_93_75 : kI 93 75 = some (.putfield 35, 3) := by decide +kernel
theorem i_93_78 : kI 93 78 = some (.aload_n 0, 1) := by decide +kernel
theorem i_93_79 : kI 93 79 = some (.iconst (-1), 1) := by decide +kernel
theorem i_93_80 : kI 93 80 = some (.putfield 38, 3) := by decide +kernel
theorem i_93_83 : kI 93 83 = some (.aload_n 0, 1) := by decide +kernel
theorem i_93_84 : kI 93 84 = some (.bipush 60, 2) := by decide +kernel
theorem i_93_86 : kI 93 86 = some (.newarray .int, 2) := by decide +kernel
theorem i_93_88 : kI 93 88 = some (.putfield 42, 3) := by decide +kernel
theorem i_93_91 : kI 93 91 = some (.aload_n 0, 1) := by decide +kernel
theorem i_93_92 : kI 93 92 = some (.bipush 60, 2) := by decide +kernel
theorem i_93_94 : kI 93 94 = some (.newarray .int, 2) := by decide +kernel
theorem i_93_96 : kI 93 96 = some (.putfield 45, 3) := by decide +kernel
theorem i_93_99 : kI 93 99 = some (.aload_n 0, 1) := by decide +kernel
theorem i_93_100 : kI 93 100 = some (.bipush 60, 2) := by decide +kernel
theorem i_93_102 : kI 93 102 = some (.newarray .int, 2) := by decide +kernel
theorem i_93_104 : kI 93 104 = some (.putfield 48, 3) := by decide +kernel
theorem i_93_107 : kI 93 107 = some (.aload_n 0, 1) := by decide +kernel
theorem i_93_108 : kI 93 108 = some (.bipush 60, 2) := by decide +kernel
theorem i_93_110 : kI 93 110 = some (.newarray .int, 2) := by decide +kernel
theorem i_93_112 : kI 93 112 = some (.putfield 51, 3) := by decide +kernel
theorem i_93_115 : kI 93 115 = some (.aload_n 0, 1) := by decide +kernel
theorem i_93_116 : kI 93 116 = some (.bipush 60, 2) := by decide +kernel
theorem i_93_118 : kI 93 118 = some (.newarray .int, 2) := by decide +kernel
theorem i_93_120 : kI 93 120 = some (.putfield 54, 3) := by decide +kernel
theorem i_93_123 : kI 93 123 = some (.aload_n 0, 1) := by decide +kernel
theorem i_93_124 : kI 93 124 = some (.bipush 60, 2) := by decide +kernel
theorem i_93_126 : kI 93 126 = some (.newarray .int, 2) := by decide +kernel
theorem i_93_128 : kI 93 128 = some (.putfield 57, 3) := by decide +kernel
theorem i_93_131 : kI 93 131 = some (.aload_n 0, 1) := by decide +kernel
theorem i_93_132 : kI 93 132 = some (.ldc 60, 2) := by decide +kernel
theorem i_93_134 : kI 93 134 = some (.newarray .int, 2) := by decide +kernel
theorem i_93_136 : kI 93 136 = some (.putfield 61, 3) := by decide +kernel
theorem i_93_139 : kI 93 139 = some (.aload_n 0, 1) := by decide +kernel
theorem i_93_140 : kI 93 140 = some (.sipush 720, 3) := by decide +kernel
theorem i_93_143 : kI 93 143 = some (.newarray .int, 2) := by decide +kernel
theorem i_93_145 : kI 93 145 = some (.putfield 64, 3) := by decide +kernel
theorem i_93_148 : kI 93 148 = some (.aload_n 0, 1) := by decide +kernel
theorem i_93_149 : kI 93 149 = some (.sipush 720, 3) := by decide +kernel
theorem i_93_152 : kI 93 152 = some (.newarray .int, 2) := by decide +kernel
theorem i_93_154 : kI 93 154 = some (.putfield 67, 3) := by decide +kernel
theorem i_93_157 : kI 93 157 = some (.aload_n 0, 1) := by decide +kernel
theorem i_93_158 : kI 93 158 = some (.bipush 12, 2) := by decide +kernel
theorem i_93_160 : kI 93 160 = some (.newarray .int, 2) := by decide +kernel
theorem i_93_162 : kI 93 162 = some (.putfield 70, 3) := by decide +kernel
theorem i_93_165 : kI 93 165 = some (.aload_n 0, 1) := by decide +kernel
theorem i_93_166 : kI 93 166 = some (.bipush 60, 2) := by decide +kernel
theorem i_93_168 : kI 93 168 = some (.newarray .int, 2) := by decide +kernel
theorem i_93_170 : kI 93 170 = some (.putfield 73, 3) := by decide +kernel
theorem i_93_173 : kI 93 173 = some (.aload_n 0, 1) := by decide +kernel
theorem i_93_174 : kI 93 174 = some (.bipush 60, 2) := by decide +kernel
theorem i_93_176 : kI 93 176 = some (.newarray .int, 2) := by decide +kernel
theorem i_93_178 : kI 93 178 = some (.putfield 76, 3) := by decide +kernel
theorem i_93_181 : kI 93 181 = some (.aload_n 0, 1) := by decide +kernel
theorem i_93_182 : kI 93 182 = some (.bipush 60, 2) := by decide +kernel
theorem i_93_184 : kI 93 184 = some (.newarray .int, 2) := by decide +kernel
theorem i_93_186 : kI 93 186 = some (.putfield 79, 3) := by decide +kernel
theorem i_93_189 : kI 93 189 = some (.aload_n 0, 1) := by decide +kernel
theorem i_93_190 : kI 93 190 = some (.bipush 60, 2) := by decide +kernel
theorem i_93_192 : kI 93 192 = some (.newarray .int, 2) := by decide +kernel
theorem i_93_194 : kI 93 194 = some (.putfield 82, 3) := by decide +kernel
theorem i_93_197 : kI 93 197 = some (.aload_n 0, 1) := by decide +kernel
theorem i_93_198 : kI 93 198 = some (.bipush 60, 2) := by decide +kernel
theorem i_93_200 : kI 93 200 = some (.newarray .boolean, 2) := by decide +kernel
theorem i_93_202 : kI 93 202 = some (.putfield 85, 3) := by decide +kernel
theorem i_93_205 : kI 93 205 = some (.return_, 1) := by decide +kernel
theorem i_94_0 : kI 94 0 = some (.aload_n 0, 1) := by decide +kernel
theorem i_94_1 : kI 94 1 = some (.getfield 88, 3) := by decide +kernel
theorem i_94_4 : kI 94 4 = some (.ireturn, 1) := by decide +kernel
theorem i_95_0 : kI 95 0 = some (.iload_n 0, 1) := by decide +kernel
theorem i_95_1 : kI 95 1 = some (.iload_n 1, 1) := by decide +kernel
theorem i_95_2 : kI 95 2 = some (.if_icmp .lt 12, 3) := by decide +kernel
theorem i_95_5 : kI 95 5 = some (.iload_n 0, 1) := by decide +kernel
theorem i_95_6 : kI 95 6 = some (.iload_n 2, 1) := by decide +kernel
theorem i_95_7 : kI 95 7 = some (.if_icmp .gt 7, 3) := by decide +kernel
theorem i_95_10 : kI 95 10 = some (.iconst 1, 1) := by decide +kernel
theorem i_95_11 : kI 95 11 = some (.goto 4, 3) := by decide +kernel
theorem i_95_14 : kI 95 14 = some (.iconst 0, 1) := by decide +kernel
theorem i_95_15 : kI 95 15 = some (.ireturn, 1) := by decide +kernel
theorem i_96_0 : kI 96 0 = some (.aload_n 0, 1) := by decide +kernel
theorem i_96_1 : kI 96 1 = some (.iload_n 1, 1) := by decide +kernel
theorem i_96_2 : kI 96 2 = some (.ifCond .eq 7, 3) := by decide +kernel
theorem i_96_5 : kI 96 5 = some (.iconst 0, 1) := by decide +kernel
theorem i_96_6 : kI 96 6 = some (.goto 4, 3) := by decide +kernel
theorem i_96_9 : kI 96 9 = some (.iconst 1, 1) := by decide +kernel
theorem i_96_10 : kI 96 10 = some (.putfield 88, 3) := by decide +kernel
theorem i_96_13 : kI 96 13 = some (.iload_n 1, 1) := by decide +kernel
theorem i_96_14 : kI 96 14 = some (.ireturn, 1) := by decide +kernel
theorem i_97_0 : kI 97 0 = some (.iload_n 1, 1) := by decide +kernel
theorem i_97_1 : kI 97 1 = some (.iconst 0, 1) := by decide +kernel
theorem i_97_2 : kI 97 2 = some (.aload_n 0, 1) := by decide +kernel
theorem i_97_3 : kI 97 3 = some (.getfield 91, 3) := by decide +kernel
theorem i_97_6 : kI 97 6 = some (.iconst 1, 1) := by decide +kernel
theorem i_97_7 : kI 97 7 = some (.isub, 1) := by decide +kernel
theorem i_97_8 : kI 97 8 = some (.invokestatic 94, 3) := by decide +kernel
theorem i_97_11 : kI 97 11 = some (.ireturn, 1) := by decide +kernel
theorem i_98_0 : kI 98 0 = some (.aload_n 0, 1) := by decide +kernel
theorem i_98_1 : kI 98 1 = some (.iload_n 1, 1) := by decide +kernel
theorem i_98_2 : kI 98 2 = some (.invokevirtual 98, 3) := by decide +kernel
theorem i_98_5 : kI 98 5 = some (.ifCond .eq 23, 3) := by decide +kernel
theorem i_98_8 : kI 98 8 = some (.iload_n 2, 1) := by decide +kernel
theorem i_98_9 : kI 98 9 = some (.iconst 0, 1) := by decide +kernel
theorem i_98_10 : kI 98 10 = some (.aload_n 0, 1) := by decide +kernel
theorem i_98_11 : kI 98 11 = some (.getfield 7, 3) := by decide +kernel
theorem i_98_14 : kI 98 14 = some (.iload_n 1, 1) := by decide +kernel
theorem i_98_15 : kI 98 15 = some (.iaload, 1) := by decide +kernel
theorem i_98_16 : kI 98 16 = some (.iconst 1, 1) := by decide +kernel
theorem i_98_17 : kI 98 17 = some (.isub, 1) := by decide +kernel
theorem i_98_18 : kI 98 18 = some (.invokestatic 94, 3) := by decide +kernel
theorem i_98_21 : kI 98 21 = some (.ifCond .eq 7, 3) := by decide +kernel
theorem i_98_24 : kI 98 24 = some (.iconst 1, 1) := by decide +kernel
theorem i_98_25 : kI 98 25 = some (.goto 4, 3) := by decide +kernel
theorem i_98_28 : kI 98 28 = some (.iconst 0, 1) := by decide +kernel
theorem i_98_29 : kI 98 29 = some (.ireturn, 1) := by decide +kernel
theorem i_99_0 : kI 99 0 = some (.iload_n 0, 1) := by decide +kernel
theorem i_99_1 : kI 99 1 = some (.bipush 40, 2) := by decide +kernel
theorem i_99_3 : kI 99 3 = some (.imul, 1) := by decide +kernel
theorem i_99_4 : kI 99 4 = some (.iload_n 1, 1) := by decide +kernel
theorem i_99_5 : kI 99 5 = some (.iadd, 1) := by decide +kernel
theorem i_99_6 : kI 99 6 = some (.bipush 6, 2) := by decide +kernel
theorem i_99_8 : kI 99 8 = some (.imul, 1) := by decide +kernel
theorem i_99_9 : kI 99 9 = some (.iload_n 2, 1) := by decide +kernel
theorem i_99_10 : kI 99 10 = some (.iadd, 1) := by decide +kernel
theorem i_99_11 : kI 99 11 = some (.ireturn, 1) := by decide +kernel
theorem i_100_0 : kI 100 0 = some (.aload_n 0, 1) := by decide +kernel
theorem i_100_1 : kI 100 1 = some (.iload_n 1, 1) := by decide +kernel
theorem i_100_2 : kI 100 2 = some (.iconst 1, 1) := by decide +kernel
theorem i_100_3 : kI 100 3 = some (.bipush 6, 2) := by decide +kernel
theorem i_100_5 : kI 100 5 = some (.invokestatic 94, 3) := by decide +kernel
theorem i_100_8 : kI 100 8 = some (.ifCond .ne 7, 3) := by decide +kernel
theorem i_100_11 : kI 100 11 = some (.iconst 1, 1) := by decide +kernel
theorem i_100_12 : kI 100 12 = some (.goto 24, 3) := by decide +kernel
theorem i_100_15 : kI 100 15 = some (.aload_n 0, 1) := by decide +kernel
theorem i_100_16 : kI 100 16 = some (.getfield 91, 3) := by decide +kernel
theorem i_100_19 : kI 100 19 = some (.bipush 6, 2) := by decide +kernel
theorem i_100_21 : kI 100 21 = some (.if_icmp .eq 10, 3) := by decide +kernel
theorem i_100_24 : kI 100 24 = some (.aload_n 0, 1) := by decide +kernel
theorem i_100_25 : kI 100 25 = some (.getfield 102, 3) := by decide +kernel
theorem i_100_28 : kI 100 28 = some (.ifCond .eq 7, 3) := by decide +kernel
theorem i_100_31 : kI 100 31 = some (.iconst 2, 1) := by decide +kernel
theorem i_100_32 : kI 100 32 = some (.goto 4, 3) := by decide +kernel
theorem i_100_35 : kI 100 35 = some (.iconst 0, 1) := by decide +kernel
theorem i_100_36 : kI 100 36 = some (.putfield 88, 3) := by decide +kernel
theorem i_100_39 : kI 100 39 = some (.aload_n 0, 1) := by decide +kernel
theorem i_100_40 : kI 100 40 = some (.getfield 88, 3) := by decide +kernel
theorem i_100_43 : kI 100 43 = some (.ifCond .le 5, 3) := by decide +kernel
theorem i_100_46 : kI 100 46 = some (.iconst 0, 1) := by decide +kernel
theorem i_100_47 : kI 100 47 = some (.ireturn, 1) := by decide +kernel
theorem i_100_48 : kI 100 48 = some (.aload_n 0, 1) := by decide +kernel
theorem i_100_49 : kI 100 49 = some (.getfield 7, 3) := by decide +kernel
theorem i_100_52 : kI 100 52 = some (.aload_n 0, 1) := by decide +kernel
theorem i_100_53 : kI 100 53 = some (.getfield 91, 3) := by decide +kernel
theorem i_100_56 : kI 100 56 = some (.iload_n 1, 1) := by decide +kernel
theorem i_100_57 : kI 100 57 = some (.iastore, 1) := by decide +kernel
theorem i_100_58 : kI 100 58 = some (.aload_n 0, 1) := by decide +kernel
theorem i_100_59 : kI 100 59 = some (.dup, 1) := by decide +kernel
theorem i_100_60 : kI 100 60 = some (.getfield 91, 3) := by decide +kernel
theorem i_100_63 : kI 100 63 = some (.iconst 1, 1) := by decide +kernel
theorem i_100_64 : kI 100 64 = some (.iadd, 1) := by decide +kernel
theorem i_100_65 : kI 100 65 = some (.putfield 91, 3) := by decide +kernel
theorem i_100_68 : kI 100 68 = some (.aload_n 0, 1) := by decide +kernel
theorem i_100_69 : kI 100 69 = some (.iconst 0, 1) := by decide +kernel
theorem i_100_70 : kI 100 70 = some (.putfield 106, 3) := by decide +kernel
theorem i_100_73 : kI 100 73 = some (.aload_n 0, 1) := by decide +kernel
theorem i_100_74 : kI 100 74 = some (.getfield 91, 3) := by decide +kernel
theorem i_100_77 : kI 100 77 = some (.iconst 1, 1) := by decide +kernel
theorem i_100_78 : kI 100 78 = some (.isub, 1) := by decide +kernel
theorem i_100_79 : kI 100 79 = some (.ireturn, 1) := by decide +kernel
theorem i_101_0 : kI 101 0 = some (.aload_n 0, 1) := by decide +kernel
theorem i_101_1 : kI 101 1 = some (.aload_n 0, 1) := by decide +kernel
theorem i_101_2 : kI 101 2 = some (.iload_n 1, 1) := by decide +kernel
theorem i_101_3 : kI 101 3 = some (.iload_n 2, 1) := by decide +kernel
theorem i_101_4 : kI 101 4 = some (.invokevirtual 109, 3) := by decide +kernel
theorem i_101_7 : kI 101 7 = some (.ifCond .ne 7, 3) := by decide +kernel
theorem i_101_10 : kI 101 10 = some (.iconst 1, 1) := by decide +kernel
theorem i_101_11 : kI 101 11 = some (.goto 29, 3) := by decide +kernel
theorem i_101_14 : kI 101 14 = some (.aload_n 0, 1) := by decide +kernel
theorem i_101_15 : kI 101 15 = some (.getfield 102, 3) := by decide +kernel
theorem i_101_18 : kI 101 18 = some (.ifCond .ne 17, 3) := by decide +kernel
theorem i_101_21 : kI 101 21 = some (.aload_n 0, 1) := by decide +kernel
theorem i_101_22 : kI 101 22 = some (.getfield 13, 3) := by decide +kernel
theorem i_101_25 : kI 101 25 = some (.iload_n 1, 1) := by decide +kernel
theorem i_101_26 : kI 101 26 = some (.bipush 6, 2) := by decide +kernel
theorem i_101_28 : kI 101 28 = some (.imul, 1) := by decide +kernel
theorem i_101_29 : kI 101 29 = some (.iload_n 2, 1) := by decide +kernel
theorem i_101_30 : kI 101 30 = some (.iadd, 1) := by decide +kernel
theorem i_101_31 : kI 101 31 = some (.baload, 1) := by decide +kernel
theorem i_101_32 : kI 101 32 = some (.ifCond .eq 7, 3) := by decide +kernel
theorem i_101_35 : kI 101 35 = some (.iconst 2, 1) := by decide +kernel
theorem i_101_36 : kI 101 36 = some (.goto 4, 3) := by decide +kernel
theorem i_101_39 : kI 101 39 = some (.iconst 0, 1) := by decide +kernel
theorem i_101_40 : kI 101 40 = some (.putfield 88, 3) := by decide +kernel
theorem i_101_43 : kI 101 43 = some (.aload_n 0, 1) := by decide +kernel
theorem i_101_44 : kI 101 44 = some (.getfield 88, 3) := by decide +kernel
theorem i_101_47 : kI 101 47 = some (.ifCond .le 4, 3) := by decide +kernel
theorem i_101_50 : kI 101 50 = some (.return_, 1) := by decide +kernel
theorem i_101_51 : kI 101 51 = some (.aload_n 0, 1) := by decide +kernel
theorem i_101_52 : kI 101 52 = some (.getfield 13, 3) := by decide +kernel
theorem i_101_55 : kI 101 55 = some (.iload_n 1, 1) := by decide +kernel
theorem i_101_56 : kI 101 56 = some (.bipush 6, 2) := by decide +kernel
theorem i_101_58 : kI 101 58 = some (.imul, 1) := by decide +kernel
theorem i_101_59 : kI 101 59 = some (.iload_n 2, 1) := by decide +kernel
theorem i_101_60 : kI 101 60 = some (.iadd, 1) := by decide +kernel
theorem i_101_61 : kI 101 61 = some (.iconst 1, 1) := by decide +kernel
theorem i_101_62 : kI 101 62 = some (.bastore, 1) := by decide +kernel
theorem i_101_63 : kI 101 63 = some (.aload_n 0, 1) := by decide +kernel
theorem i_101_64 : kI 101 64 = some (.iconst 0, 1) := by decide +kernel
theorem i_101_65 : kI 101 65 = some (.putfield 106, 3) := by decide +kernel
theorem i_101_68 : kI 101 68 = some (.return_, 1) := by decide +kernel
theorem i_102_0 : kI 102 0 = some (.aload_n 0, 1) := by decide +kernel
theorem i_102_1 : kI 102 1 = some (.iload_n 1, 1) := by decide +kernel
theorem i_102_2 : kI 102 2 = some (.iconst 0, 1) := by decide +kernel
theorem i_102_3 : kI 102 3 = some (.iconst 5, 1) := by decide +kernel
theorem i_102_4 : kI 102 4 = some (.invokestatic 94, 3) := by decide +kernel
theorem i_102_7 : kI 102 7 = some (.invokevirtual 113, 3) := by decide +kernel
theorem i_102_10 : kI 102 10 = some (.ifCond .eq 10, 3) := by decide +kernel
theorem i_102_13 : kI 102 13 = some (.aload_n 0, 1) := by decide +kernel
theorem i_102_14 : kI 102 14 = some (.getfield 23, 3) := by decide +kernel
theorem i_102_17 : kI 102 17 = some (.iload_n 1, 1) := by decide +kernel
theorem i_102_18 : kI 102 18 = some (.iload_n 2, 1) := by decide +kernel
theorem i_102_19 : kI 102 19 = some (.iastore, 1) := by decide +kernel
theorem i_102_20 : kI 102 20 = some (.return_, 1) := by decide +kernel
theorem i_103_0 : kI 103 0 = some (.aload_n 0, 1) := by decide +kernel
theorem i_103_1 : kI 103 1 = some (.aload_n 0, 1) := by decide +kernel
theorem i_103_2 : kI 103 2 = some (.iload_n 1, 1) := by decide +kernel
theorem i_103_3 : kI 103 3 = some (.invokevirtual 98, 3) := by decide +kernel
theorem i_103_6 : kI 103 6 = some (.ifCond .ne 7, 3) := by decide +kernel
theorem i_103_9 : kI 103 9 = some (.iconst 1, 1) := by decide +kernel
theorem i_103_10 : kI 103 10 = some (.goto 35, 3) := by decide +kernel
theorem i_103_13 : kI 103 13 = some (.aload_n 0, 1) := by decide +kernel
theorem i_103_14 : kI 103 14 = some (.getfield 17, 3) := by decide +kernel
theorem i_103_17 : kI 103 17 = some (.iload_n 1, 1) := by decide +kernel
theorem i_103_18 : kI 103 18 = some (.iaload, 1) := by decide +kernel
theorem i_103_19 : kI 103 19 = some (.bipush 40, 2) := by decide +kernel
theorem i_103_21 : kI 103 21 = some (.if_icmp .eq 19, 3) := by decide +kernel
theorem i_103_24 : kI 103 24 = some (.aload_n 0, 1) := by decide +kernel
theorem i_103_25 : kI 103 25 = some (.getfield 102, 3) := by decide +kernel
theorem i_103_28 : kI 103 28 = some (.ifCond .eq 16, 3) := by decide +kernel
theorem i_103_31 : kI 103 31 = some (.aload_n 0, 1) := by decide +kernel
theorem i_103_32 : kI 103 32 = some (.getfield 117, 3) := by decide +kernel
theorem i_103_35 : kI 103 35 = some (.bipush 120, 2) := by decide +kernel
theorem i_103_37 : kI 103 37 = some (.if_icmp .ne 7, 3) := by decide +kernel
theorem i_103_40 : kI 103 40 = some (.iconst 2, 1) := by decide +kernel
theorem i_103_41 : kI 103 41 = some (.goto 4, 3) := by decide +kernel
theorem i_103_44 : kI 103 44 = some (.iconst 0, 1) := by decide +kernel
theorem i_103_45 : kI 103 45 = some (.putfield 88, 3) := by decide +kernel
theorem i_103_48 : kI 103 48 = some (.aload_n 0, 1) := by decide +kernel
theorem i_103_49 : kI 103 49 = some (.getfield 88, 3) := by decide +kernel
theorem i_103_52 : kI 103 52 = some (.ifCond .le 5, 3) := by decide +kernel
theorem i_103_55 : kI 103 55 = some (.iconst 0, 1) := by decide +kernel
theorem i_103_56 : kI 103 56 = some (.ireturn, 1) := by decide +kernel
theorem i_103_57 : kI 103 57 = some (.iconst 0, 1) := by decide +kernel
theorem i_103_58 : kI 103 58 = some (.istore_n 2, 1) := by decide +kernel
theorem i_103_59 : kI 103 59 = some (.iload_n 2, 1) := by decide +kernel
theorem i_103_60 : kI 103 60 = some (.bipush 6, 2) := by decide +kernel
theorem i_103_62 : kI 103 62 = some (.if_icmp .ge 31, 3) := by decide +kernel
theorem i_103_65 : kI 103 65 = some (.aload_n 0, 1) := by decide +kernel
theorem i_103_66 : kI 103 66 = some (.getfield 20, 3) := by decide +kernel
theorem i_103_69 : kI 103 69 = some (.iload_n 1, 1) := by decide +kernel
theorem i_103_70 : kI 103 70 = some (.aload_n 0, 1) := by decide +kernel
theorem i_103_71 : kI 103 71 = some (.getfield 17, 3) := by decide +kernel
theorem i_103_74 : kI 103 74 = some (.iload_n 1, 1) := by decide +kernel
theorem i_103_75 : kI 103 75 = some (.iaload, 1) := by decide +kernel
theorem i_103_76 : kI 103 76 = some (.iload_n 2, 1) := by decide +kernel
theorem i_103_77 : kI 103 77 = some (.invokestatic 120, 3) := by decide +kernel
theorem i_103_80 : kI 103 80 = some (.aload_n 0, 1) := by decide +kernel
theorem i_103_81 : kI 103 81 = some (.getfield 23, 3) := by decide +kernel
theorem i_103_84 : kI 103 84 = some (.iload_n 2, 1) := by decide +kernel
theorem i_103_85 : kI 103 85 = some (.iaload, 1) := by decide +kernel
theorem i_103_86 : kI 103 86 = some (.iastore, 1) := by decide +kernel
theorem i_103_87 : kI 103 87 = some (.iinc 2 1, 3) := by decide +kernel
theorem i_103_90 : kI 103 90 = some (.goto (-31), 3) := by decide +kernel
theorem i_103_93 : kI 103 93 = some (.aload_n 0, 1) := by decide +kernel
theorem i_103_94 : kI 103 94 = some (.getfield 17, 3) := by decide +kernel
theorem i_103_97 : kI 103 97 = some (.iload_n 1, 1) := by decide +kernel
theorem i_103_98 : kI 103 98 = some (.dup2, 1) := by decide +kernel
theorem i_103_99 : kI 103 99 = some (.iaload, 1) := by decide +kernel
theorem i_103_100 : kI 103 100 = some (.iconst 1, 1) := by decide +kernel
theorem i_103_101 : kI 103 101 = some (.iadd, 1) := by decide +kernel
theorem i_103_102 : kI 103 102 = some (.iastore, 1) := by decide +kernel
theorem i_103_103 : kI 103 103 = some (.aload_n 0, 1) := by decide +kernel
theorem i_103_104 : kI 103 104 = some (.dup, 1) := by decide +kernel
theorem i_103_105 : kI 103 105 = some (.getfield 117, 3) := by decide +kernel
theorem i_103_108 : kI 103 108 = some (.iconst 1, 1) := by decide +kernel
theorem i_103_109 : kI 103 109 = some (.iadd, 1) := by decide +kernel
theorem i_103_110 : kI 103 110 = some (.putfield 117, 3) := by decide +kernel
theorem i_103_113 : kI 103 113 = some (.aload_n 0, 1) := by decide +kernel
theorem i_103_114 : kI 103 114 = some (.iconst 0, 1) := by decide +kernel
theorem i_103_115 : kI 103 115 = some (.putfield 106, 3) := by decide +kernel
theorem i_103_118 : kI 103 118 = some (.aload_n 0, 1) := by decide +kernel
theorem i_103_119 : kI 103 119 = some (.getfield 17, 3) := by decide +kernel
theorem i_103_122 : kI 103 122 = some (.iload_n 1, 1) := by decide +kernel
theorem i_103_123 : kI 103 123 = some (.iaload, 1) := by decide +kernel
theorem i_103_124 : kI 103 124 = some (.ireturn, 1) := by decide +kernel
theorem i_104_0 : kI 104 0 = some (.iconst 0, 1) := by decide +kernel
theorem i_104_1 : kI 104 1 = some (.istore 4, 2) := by decide +kernel
theorem i_104_3 : kI 104 3 = some (.iconst 0, 1) := by decide +kernel
theorem i_104_4 : kI 104 4 = some (.istore 5, 2) := by decide +kernel
theorem i_104_6 : kI 104 6 = some (.iload 5, 2) := by decide +kernel
theorem i_104_8 : kI 104 8 = some (.aload_n 0, 1) := by decide +kernel
theorem i_104_9 : kI 104 9 = some (.getfield 17, 3) := by decide +kernel
theorem i_104_12 : kI 104 12 = some (.iload_n 1, 1) := by decide +kernel
theorem i_104_13 : kI 104 13 = some (.iaload, 1) := by decide +kernel
theorem i_104_14 : kI 104 14 = some (.if_icmp .ge 28, 3) := by decide +kernel
theorem i_104_17 : kI 104 17 = some (.aload_n 0, 1) := by decide +kernel
theorem i_104_18 : kI 104 18 = some (.getfield 20, 3) := by decide +kernel
theorem i_104_21 : kI 104 21 = some (.iload_n 1, 1) := by decide +kernel
theorem i_104_22 : kI 104 22 = some (.iload 5, 2) := by decide +kernel
theorem i_104_24 : kI 104 24 = some (.iload_n 2, 1) := by decide +kernel
theorem i_104_25 : kI 104 25 = some (.invokestatic 120, 3) := by decide +kernel
theorem i_104_28 : kI 104 28 = some (.iaload, 1) := by decide +kernel
theorem i_104_29 : kI 104 29 = some (.iload_n 3, 1) := by decide +kernel
theorem i_104_30 : kI 104 30 = some (.if_icmp .ne 6, 3) := by decide +kernel
theorem i_104_33 : kI 104 33 = some (.iinc 4 1, 3) := by decide +kernel
theorem i_104_36 : kI 104 36 = some (.iinc 5 1, 3) := by decide +kernel
theorem i_104_39 : kI 104 39 = some (.goto (-33), 3) := by decide +kernel
theorem i_104_42 : kI 104 42 = some (.iload 4, 2) := by decide +kernel
theorem i_104_44 : kI 104 44 = some (.ireturn, 1) := by decide +kernel
theorem i_105_0 : kI 105 0 = some (.aload_n 0, 1) := by decide +kernel
theorem i_105_1 : kI 105 1 = some (.aload_n 0, 1) := by decide +kernel
theorem i_105_2 : kI 105 2 = some (.iload_n 1, 1) := by decide +kernel
theorem i_105_3 : kI 105 3 = some (.iload_n 2, 1) := by decide +kernel
theorem i_105_4 : kI 105 4 = some (.invokevirtual 109, 3) := by decide +kernel
theorem i_105_7 : kI 105 7 = some (.ifCond .ne 7, 3) := by decide +kernel
theorem i_105_10 : kI 105 10 = some (.iconst 1, 1) := by decide +kernel
theorem i_105_11 : kI 105 11 = some (.goto 32, 3) := by decide +kernel
theorem i_105_14 : kI 105 14 = some (.aload_n 0, 1) := by decide +kernel
theorem i_105_15 : kI 105 15 = some (.getfield 102, 3) := by decide +kernel
theorem i_105_18 : kI 105 18 = some (.ifCond .eq 24, 3) := by decide +kernel
theorem i_105_21 : kI 105 21 = some (.aload_n 0, 1) := by decide +kernel
theorem i_105_22 : kI 105 22 = some (.getfield 117, 3) := by decide +kernel
theorem i_105_25 : kI 105 25 = some (.aload_n 0, 1) := by decide +kernel
theorem i_105_26 : kI 105 26 = some (.iload_n 1, 1) := by decide +kernel
theorem i_105_27 : kI 105 27 = some (.iload_n 2, 1) := by decide +kernel
theorem i_105_28 : kI 105 28 = some (.iload_n 3, 1) := by decide +kernel
theorem i_105_29 : kI 105 29 = some (.invokevirtual 123, 3) := by decide +kernel
theorem i_105_32 : kI 105 32 = some (.iadd, 1) := by decide +kernel
theorem i_105_33 : kI 105 33 = some (.bipush 120, 2) := by decide +kernel
theorem i_105_35 : kI 105 35 = some (.if_icmp .le 7, 3) := by decide +kernel
theorem i_105_38 : kI 105 38 = some (.iconst 2, 1) := by decide +kernel
theorem i_105_39 : kI 105 39 = some (.goto 4, 3) := by decide +kernel
theorem i_105_42 : kI 105 42 = some (.iconst 0, 1) := by decide +kernel
theorem i_105_43 : kI 105 43 = some (.putfield 88, 3) := by decide +kernel
theorem i_105_46 : kI 105 46 = some (.aload_n 0, 1) := by decide +kernel
theorem i_105_47 : kI 105 47 = some (.getfield 88, 3) := by decide +kernel
theorem i_105_50 : kI 105 50 = some (.ifCond .le 5, 3) := by decide +kernel
theorem i_105_53 : kI 105 53 = some (.iconst 0, 1) := by decide +kernel
theorem i_105_54 : kI 105 54 = some (.ireturn, 1) := by decide +kernel
theorem i_105_55 : kI 105 55 = some (.aload_n 0, 1) := by decide +kernel
theorem i_105_56 : kI 105 56 = some (.iload_n 1, 1) := by decide +kernel
theorem i_105_57 : kI 105 57 = some (.iload_n 2, 1) := by decide +kernel
theorem i_105_58 : kI 105 58 = some (.iload_n 3, 1) := by decide +kernel
theorem i_105_59 : kI 105 59 = some (.invokevirtual 123, 3) := by decide +kernel
theorem i_105_62 : kI 105 62 = some (.istore 4, 2) := by decide +kernel
theorem i_105_64 : kI 105 64 = some (.iconst 0, 1) := by decide +kernel
theorem i_105_65 : kI 105 65 = some (.istore 5, 2) := by decide +kernel
theorem i_105_67 : kI 105 67 = some (.iconst 0, 1) := by decide +kernel
theorem i_105_68 : kI 105 68 = some (.istore 6, 2) := by decide +kernel
theorem i_105_70 : kI 105 70 = some (.iload 6, 2) := by decide +kernel
theorem i_105_72 : kI 105 72 = some (.aload_n 0, 1) := by decide +kernel
theorem i_105_73 : kI 105 73 = some (.getfield 17, 3) := by decide +kernel
theorem i_105_76 : kI 105 76 = some (.iload_n 1, 1) := by decide +kernel
theorem i_105_77 : kI 105 77 = some (.iaload, 1) := by decide +kernel
theorem i_105_78 : kI 105 78 = some (.if_icmp .ge 73, 3) := by decide +kernel
theorem i_105_81 : kI 105 81 = some (.aload_n 0, 1) := by decide +kernel
theorem i_105_82 : kI 105 82 = some (.getfield 20, 3) := by decide +kernel
theorem i_105_85 : kI 105 85 = some (.iload_n 1, 1) := by decide +kernel
theorem i_105_86 : kI 105 86 = some (.iload 6, 2) := by decide +kernel
theorem i_105_88 : kI 105 88 = some (.iload_n 2, 1) := by decide +kernel
theorem i_105_89 : kI 105 89 = some (.invokestatic 120, 3) := by decide +kernel
theorem i_105_92 : kI 105 92 = some (.iaload, 1) := by decide +kernel
theorem i_105_93 : kI 105 93 = some (.iload_n 3, 1) := by decide +kernel
theorem i_105_94 : kI 105 94 = some (.if_icmp .ne 6, 3) := by decide +kernel
theorem i_105_97 : kI 105 97 = some (.goto 48, 3) := by decide +kernel
theorem i_105_100 : kI 105 100 = some (.iconst 0, 1) := by decide +kernel
theorem i_105_101 : kI 105 101 = some (.istore 7, 2) := by decide +kernel
theorem i_105_103 : kI 105 103 = some (.iload 7, 2) := by decide +kernel
theorem i_105_105 : kI 105 105 = some (.bipush 6, 2) := by decide +kernel
theorem i_105_107 : kI 105 107 = some (.if_icmp .ge 35, 3) := by decide +kernel
theorem i_105_110 : kI 105 110 = some (.aload_n 0, 1) := by decide +kernel
theorem i_105_111 : kI 105 111 = some (.getfield 20, 3) := by decide +kernel
theorem i_105_114 : kI 105 114 = some (.iload_n 1, 1) := by decide +kernel
theorem i_105_115 : kI 105 115 = some (.iload 5, 2) := by decide +kernel
theorem i_105_117 : kI 105 117 = some (.iload 7, 2) := by decide +kernel
theorem i_105_119 : kI 105 119 = some (.invokestatic 120, 3) := by decide +kernel
theorem i_105_122 : kI 105 122 = some (.aload_n 0, 1) := by decide +kernel
theorem i_105_123 : kI 105 123 = some (.getfield 20, 3) := by decide +kernel
theorem i_105_126 : kI 105 126 = some (.iload_n 1, 1) := by decide +kernel
theorem i_105_127 : kI 105 127 = some (.iload 6, 2) := by decide +kernel
theorem i_105_129 : kI 105 129 = some (.iload 7, 2) := by decide +kernel
theorem i_105_131 : kI 105 131 = some (.invokestatic 120, 3) := by decide +kernel
theorem i_105_134 : kI 105 134 = some (.iaload, 1) := by decide +kernel
theorem i_105_135 : kI 105 135 = some (.iastore, 1) := by decide +kernel
theorem i_105_136 : kI 105 136 = some (.iinc 7 1, 3) := by decide +kernel
theorem i_105_139 : kI 105 139 = some (.goto (-36), 3) := by decide +kernel
theorem i_105_142 : kI 105 142 = some (.iinc 5 1, 3) := by decide +kernel
theorem i_105_145 : kI 105 145 = some (.iinc 6 1, 3) := by decide +kernel
theorem i_105_148 : kI 105 148 = some (.goto (-78), 3) := by decide +kernel
theorem i_105_151 : kI 105 151 = some (.aload_n 0, 1) := by decide +kernel
theorem i_105_152 : kI 105 152 = some (.getfield 17, 3) := by decide +kernel
theorem i_105_155 : kI 105 155 = some (.iload_n 1, 1) := by decide +kernel
theorem i_105_156 : kI 105 156 = some (.iload 5, 2) := by decide +kernel
theorem i_105_158 : kI 105 158 = some (.iastore, 1) := by decide +kernel
theorem i_105_159 : kI 105 159 = some (.aload_n 0, 1) := by decide +kernel
theorem i_105_160 : kI 105 160 = some (.aload_n 0, 1) := by decide +kernel
theorem i_105_161 : kI 105 161 = some (.getfield 117, 3) := by decide +kernel
theorem i_105_164 : kI 105 164 = some (.iload 4, 2) := by decide +kernel
theorem i_105_166 : kI 105 166 = some (.iadd, 1) := by decide +kernel
theorem i_105_167 : kI 105 167 = some (.putfield 117, 3) := by decide +kernel
theorem i_105_170 : kI 105 170 = some (.aload_n 0, 1) := by decide +kernel
theorem i_105_171 : kI 105 171 = some (.iconst 0, 1) := by decide +kernel
theorem i_105_172 : kI 105 172 = some (.putfield 106, 3) := by decide +kernel
theorem i_105_175 : kI 105 175 = some (.iload 4, 2) := by decide +kernel
theorem i_105_177 : kI 105 177 = some (.ireturn, 1) := by decide +kernel
theorem i_106_0 : kI 106 0 = some (.iload_n 2, 1) := by decide +kernel
theorem i_106_1 : kI 106 1 = some (.bipush 8, 2) := by decide +kernel
theorem i_106_3 : kI 106 3 = some (.idiv, 1) := by decide +kernel
theorem i_106_4 : kI 106 4 = some (.istore 5, 2) := by decide +kernel
theorem i_106_6 : kI 106 6 = some (.iload_n 2, 1) := by decide +kernel
theorem i_106_7 : kI 106 7 = some (.bipush 8, 2) := by decide +kernel
theorem i_106_9 : kI 106 9 = some (.irem, 1) := by decide +kernel
theorem i_106_10 : kI 106 10 = some (.istore 6, 2) := by decide +kernel
theorem i_106_12 : kI 106 12 = some (.aload_n 0, 1) := by decide +kernel
theorem i_106_13 : kI 106 13 = some (.iload_n 2, 1) := by decide +kernel
theorem i_106_14 : kI 106 14 = some (.ifCond .lt 23, 3) := by decide +kernel
theorem i_106_17 : kI 106 17 = some (.aload_n 0, 1) := by decide +kernel
theorem i_106_18 : kI 106 18 = some (.iload_n 1, 1) := by decide +kernel
theorem i_106_19 : kI 106 19 = some (.iload 5, 2) := by decide +kernel
theorem i_106_21 : kI 106 21 = some (.invokevirtual 109, 3) := by decide +kernel
theorem i_106_24 : kI 106 24 = some (.ifCond .eq 13, 3) := by decide +kernel
theorem i_106_27 : kI 106 27 = some (.aload_n 0, 1) := by decide +kernel
theorem i_106_28 : kI 106 28 = some (.iload_n 1, 1) := by decide +kernel
theorem i_106_29 : kI 106 29 = some (.iload 6, 2) := by decide +kernel
theorem i_106_31 : kI 106 31 = some (.invokevirtual 109, 3) := by decide +kernel
theorem i_106_34 : kI 106 34 = some (.ifCond .ne 7, 3) := by decide +kernel
theorem i_106_37 : kI 106 37 = some (.iconst 1, 1) := by decide +kernel
theorem i_106_38 : kI 106 38 = some (.goto 33, 3) := by decide +kernel
theorem i_106_41 : kI 106 41 = some (.aload_n 0, 1) := by decide +kernel
theorem i_106_42 : kI 106 42 = some (.getfield 102, 3) := by decide +kernel
theorem i_106_45 : kI 106 45 = some (.ifCond .eq 25, 3) := by decide +kernel
theorem i_106_48 : kI 106 48 = some (.aload_n 0, 1) := by decide +kernel
theorem i_106_49 : kI 106 49 = some (.getfield 117, 3) := by decide +kernel
theorem i_106_52 : kI 106 52 = some (.aload_n 0, 1) := by decide +kernel
theorem i_106_53 : kI 106 53 = some (.iload_n 1, 1) := by decide +kernel
theorem i_106_54 : kI 106 54 = some (.iload 5, 2) := by decide +kernel
theorem i_106_56 : kI 106 56 = some (.iload_n 3, 1) := by decide +kernel
theorem i_106_57 : kI 106 57 = some (.invokevirtual 123, 3) := by decide +kernel
theorem i_106_60 : kI 106 60 = some (.iadd, 1) := by decide +kernel
theorem i_106_61 : kI 106 61 = some (.bipush 120, 2) := by decide +kernel
theorem i_106_63 : kI 106 63 = some (.if_icmp .le 7, 3) := by decide +kernel
theorem i_106_66 : kI 106 66 = some (.iconst 2, 1) := by decide +kernel
theorem i_106_67 : kI 106 67 = some (.goto 4, 3) := by decide +kernel
theorem i_106_70 : kI 106 70 = some (.iconst 0, 1) := by decide +kernel
theorem i_106_71 : kI 106 71 = some (.putfield 88, 3) := by decide +kernel
theorem i_106_74 : kI 106 74 = some (.aload_n 0, 1) := by decide +kernel
theorem i_106_75 : kI 106 75 = some (.getfield 88, 3) := by decide +kernel
theorem i_106_78 : kI 106 78 = some (.ifCond .le 5, 3) := by decide +kernel
theorem i_106_81 : kI 106 81 = some (.iconst 0, 1) := by decide +kernel
theorem i_106_82 : kI 106 82 = some (.ireturn, 1) := by decide +kernel
theorem i_106_83 : kI 106 83 = some (.iconst 0, 1) := by decide +kernel
theorem i_106_84 : kI 106 84 = some (.istore 7, 2) := by decide +kernel
theorem i_106_86 : kI 106 86 = some (.iconst 0, 1) := by decide +kernel
theorem i_106_87 : kI 106 87 = some (.istore 8, 2) := by decide +kernel
theorem i_106_89 : kI 106 89 = some (.iload 8, 2) := by decide +kernel
theorem i_106_91 : kI 106 91 = some (.aload_n 0, 1) := by decide +kernel
theorem i_106_92 : kI 106 92 = some (.getfield 17, 3) := by decide +kernel
theorem i_106_95 : kI 106 95 = some (.iload_n 1, 1) := by decide +kernel
theorem i_106_96 : kI 106 96 = some (.iaload, 1) := by decide +kernel
theorem i_106_97 : kI 106 97 = some (.if_icmp .ge 47, 3) := by decide +kernel
theorem i_106_100 : kI 106 100 = some (.aload_n 0, 1) := by decide +kernel
theorem i_106_101 : kI 106 101 = some (.getfield 20, 3) := by decide +kernel
theorem i_106_104 : kI 106 104 = some (.iload_n 1, 1) := by decide +kernel
theorem i_106_105 : kI 106 105 = some (.iload 8, 2) := by decide +kernel
theorem i_106_107 : kI 106 107 = some (.iload 5, 2) := by decide +kernel
theorem i_106_109 : kI 106 109 = some (.invokestatic 120, 3) := by decide +kernel
theorem i_106_112 : kI 106 112 = some (.iaload, 1) := by decide +kernel
theorem i_106_113 : kI 106 113 = some (.iload_n 3, 1) := by decide +kernel
theorem i_106_114 : kI 106 114 = some (.if_icmp .eq 6, 3) := by decide +kernel
theorem i_106_117 : kI 106 117 = some (.goto 21, 3) := by decide +kernel
theorem i_106_120 : kI 106 120 = some (.aload_n 0, 1) := by decide +kernel
theorem i_106_121 : kI 106 121 = some (.getfield 20, 3) := by decide +kernel
theorem i_106_124 : kI 106 124 = some (.iload_n 1, 1) := by decide +kernel
theorem i_106_125 : kI 106 125 = some (.iload 8, 2) := by decide +kernel
theorem i_106_127 : kI 106 127 = some (.iload 6, 2) := by decide +kernel
theorem i_106_129 : kI 106 129 = some (.invokestatic 120, 3) := by decide +kernel
theorem i_106_132 : kI 106 132 = some (.iload 4, 2) := by decide +kernel
theorem i_106_134 : kI 106 134 = some (.iastore, 1) := by decide +kernel
theorem i_106_135 : kI 106 135 = some (.iinc 7 1, 3) := by decide +kernel
theorem i_106_138 : kI 106 138 = some (.iinc 8 1, 3) := by decide +kernel
theorem i_106_141 : kI 106 141 = some (.goto (-52), 3) := by decide +kernel
theorem i_106_144 : kI 106 144 = some (.aload_n 0, 1) := by decide +kernel
theorem i_106_145 : kI 106 145 = some (.aload_n 0, 1) := by decide +kernel
theorem i_106_146 : kI 106 146 = some (.getfield 117, 3) := by decide +kernel
theorem i_106_149 : kI 106 149 = some (.iload 7, 2) := by decide +kernel
theorem i_106_151 : kI 106 151 = some (.iadd, 1) := by decide +kernel
theorem i_106_152 : kI 106 152 = some (.putfield 117, 3) := by decide +kernel
theorem i_106_155 : kI 106 155 = some (.aload_n 0, 1) := by decide +kernel
theorem i_106_156 : kI 106 156 = some (.iconst 0, 1) := by decide +kernel
theorem i_106_157 : kI 106 157 = some (.putfield 106, 3) := by decide +kernel
theorem i_106_160 : kI 106 160 = some (.iload 7, 2) := by decide +kernel
theorem i_106_162 : kI 106 162 = some (.ireturn, 1) := by decide +kernel
theorem i_107_0 : kI 107 0 = some (.aload_n 0, 1) := by decide +kernel
theorem i_107_1 : kI 107 1 = some (.aload_n 0, 1) := by decide +kernel
theorem i_107_2 : kI 107 2 = some (.getfield 102, 3) := by decide +kernel
theorem i_107_5 : kI 107 5 = some (.ifCond .eq 7, 3) := by decide +kernel
theorem i_107_8 : kI 107 8 = some (.iconst 1, 1) := by decide +kernel
theorem i_107_9 : kI 107 9 = some (.goto 4, 3) := by decide +kernel
theorem i_107_12 : kI 107 12 = some (.iconst 0, 1) := by decide +kernel
theorem i_107_13 : kI 107 13 = some (.putfield 88, 3) := by decide +kernel
theorem i_107_16 : kI 107 16 = some (.aload_n 0, 1) := by decide +kernel
theorem i_107_17 : kI 107 17 = some (.getfield 88, 3) := by decide +kernel
theorem i_107_20 : kI 107 20 = some (.ifCond .le 4, 3) := by decide +kernel
theorem i_107_23 : kI 107 23 = some (.return_, 1) := by decide +kernel
theorem i_107_24 : kI 107 24 = some (.iconst 0, 1) := by decide +kernel
theorem i_107_25 : kI 107 25 = some (.istore_n 1, 1) := by decide +kernel
theorem i_107_26 : kI 107 26 = some (.iload_n 1, 1) := by decide +kernel
theorem i_107_27 : kI 107 27 = some (.aload_n 0, 1) := by decide +kernel
theorem i_107_28 : kI 107 28 = some (.getfield 20, 3) := by decide +kernel
theorem i_107_31 : kI 107 31 = some (.arraylength, 1) := by decide +kernel
theorem i_107_32 : kI 107 32 = some (.if_icmp .ge 21, 3) := by decide +kernel
theorem i_107_35 : kI 107 35 = some (.aload_n 0, 1) := by decide +kernel
theorem i_107_36 : kI 107 36 = some (.getfield 29, 3) := by decide +kernel
theorem i_107_39 : kI 107 39 = some (.iload_n 1, 1) := by decide +kernel
theorem i_107_40 : kI 107 40 = some (.aload_n 0, 1) := by decide +kernel
theorem i_107_41 : kI 107 41 = some (.getfield 20, 3) := by decide +kernel
theorem i_107_44 : kI 107 44 = some (.iload_n 1, 1) := by decide +kernel
theorem i_107_45 : kI 107 45 = some (.iaload, 1) := by decide +kernel
theorem i_107_46 : kI 107 46 = some (.iastore, 1) := by decide +kernel
theorem i_107_47 : kI 107 47 = some (.iinc 1 1, 3) := by decide +kernel
theorem i_107_50 : kI 107 50 = some (.goto (-24), 3) := by decide +kernel
theorem i_107_53 : kI 107 53 = some (.iconst 0, 1) := by decide +kernel
theorem i_107_54 : kI 107 54 = some (.istore_n 1, 1) := by decide +kernel
theorem i_107_55 : kI 107 55 = some (.iload_n 1, 1) := by decide +kernel
theorem i_107_56 : kI 107 56 = some (.bipush 6, 2) := by decide +kernel
theorem i_107_58 : kI 107 58 = some (.if_icmp .ge 21, 3) := by decide +kernel
theorem i_107_61 : kI 107 61 = some (.aload_n 0, 1) := by decide +kernel
theorem i_107_62 : kI 107 62 = some (.getfield 26, 3) := by decide +kernel
theorem i_107_65 : kI 107 65 = some (.iload_n 1, 1) := by decide +kernel
theorem i_107_66 : kI 107 66 = some (.aload_n 0, 1) := by decide +kernel
theorem i_107_67 : kI 107 67 = some (.getfield 17, 3) := by decide +kernel
theorem i_107_70 : kI 107 70 = some (.iload_n 1, 1) := by decide +kernel
theorem i_107_71 : kI 107 71 = some (.iaload, 1) := by decide +kernel
theorem i_107_72 : kI 107 72 = some (.iastore, 1) := by decide +kernel
theorem i_107_73 : kI 107 73 = some (.iinc 1 1, 3) := by decide +kernel
theorem i_107_76 : kI 107 76 = some (.goto (-21), 3) := by decide +kernel
theorem i_107_79 : kI 107 79 = some (.aload_n 0, 1) := by decide +kernel
theorem i_107_80 : kI 107 80 = some (.iconst 1, 1) := by decide +kernel
theorem i_107_81 : kI 107 81 = some (.putfield 102, 3) := by decide +kernel
theorem i_107_84 : kI 107 84 = some (.aload_n 0, 1) := by decide +kernel
theorem i_107_85 : kI 107 85 = some (.iconst 0, 1) := by decide +kernel
theorem i_107_86 : kI 107 86 = some (.putfield 117, 3) := by decide +kernel
theorem i_107_89 : kI 107 89 = some (.aload_n 0, 1) := by decide +kernel
theorem i_107_90 : kI 107 90 = some (.iconst 0, 1) := by decide +kernel
theorem i_107_91 : kI 107 91 = some (.putfield 106, 3) := by decide +kernel
theorem i_107_94 : kI 107 94 = some (.return_, 1) := by decide +kernel
theorem i_108_0 : kI 108 0 = some (.aload_n 0, 1) := by decide +kernel
theorem i_108_1 : kI 108 1 = some (.aload_n 0, 1) := by decide +kernel
theorem i_108_2 : kI 108 2 = some (.getfield 102, 3) := by decide +kernel
theorem i_108_5 : kI 108 5 = some (.ifCond .eq 7, 3) := by decide +kernel
theorem i_108_8 : kI 108 8 = some (.iconst 0, 1) := by decide +kernel
theorem i_108_9 : kI 108 9 = some (.goto 4, 3) := by decide +kernel
theorem i_108_12 : kI 108 12 = some (.iconst 1, 1) := by decide +kernel
theorem i_108_13 : kI 108 13 = some (.putfield 88, 3) := by decide +kernel
theorem i_108_16 : kI 108 16 = some (.aload_n 0, 1) := by decide +kernel
theorem i_108_17 : kI 108 17 = some (.getfield 88, 3) := by decide +kernel
theorem i_108_20 : kI 108 20 = some (.ifCond .le 5, 3) := by decide +kernel
theorem i_108_23 : kI 108 23 = some (.iconst 0, 1) := by decide +kernel
theorem i_108_24 : kI 108 24 = some (.ireturn, 1) := by decide +kernel
theorem i_108_25 : kI 108 25 = some (.aload_n 0, 1) := by decide +kernel
theorem i_108_26 : kI 108 26 = some (.iconst 0, 1) := by decide +kernel
theorem i_108_27 : kI 108 27 = some (.putfield 102, 3) := by decide +kernel
theorem i_108_30 : kI 108 30 = some (.aload_n 0, 1) := by decide +kernel
theorem i_108_31 : kI 108 31 = some (.iconst 0, 1) := by decide +kernel
theorem i_108_32 : kI 108 32 = some (.putfield 106, 3) := by decide +kernel
theorem i_108_35 : kI 108 35 = some (.aload_n 0, 1) := by decide +kernel
theorem i_108_36 : kI 108 36 = some (.getfield 117, 3) := by decide +kernel
theorem i_108_39 : kI 108 39 = some (.ireturn, 1) := by decide +kernel
theorem i_109_0 : kI 109 0 = some (.aload_n 0, 1) := by decide +kernel
theorem i_109_1 : kI 109 1 = some (.invokevirtual 126, 3) := by decide +kernel
theorem i_109_4 : kI 109 4 = some (.istore_n 1, 1) := by decide +kernel
theorem i_109_5 : kI 109 5 = some (.aload_n 0, 1) := by decide +kernel
theorem i_109_6 : kI 109 6 = some (.getfield 88, 3) := by decide +kernel
theorem i_109_9 : kI 109 9 = some (.ifCond .le 5, 3) := by decide +kernel
theorem i_109_12 : kI 109 12 = some (.iconst 0, 1) := by decide +kernel
theorem i_109_13 : kI 109 13 = some (.ireturn, 1) := by decide +kernel
theorem i_109_14 : kI 109 14 = some (.iconst 0, 1) := by decide +kernel
theorem i_109_15 : kI 109 15 = some (.istore_n 2, 1) := by decide +kernel
theorem i_109_16 : kI 109 16 = some (.iload_n 2, 1) := by decide +kernel
theorem i_109_17 : kI 109 17 = some (.aload_n 0, 1) := by decide +kernel
theorem i_109_18 : kI 109 18 = some (.getfield 20, 3) := by decide +kernel
theorem i_109_21 : kI 109 21 = some (.arraylength, 1) := by decide +kernel
theorem i_109_22 : kI 109 22 = some (.if_icmp .ge 21, 3) := by decide +kernel
theorem i_109_25 : kI 109 25 = some (.aload_n 0, 1) := by decide +kernel
theorem i_109_26 : kI 109 26 = some (.getfield 20, 3) := by decide +kernel
theorem i_109_29 : kI 109 29 = some (.iload_n 2, 1) := by decide +kernel
theorem i_109_30 : kI 109 30 = some (.aload_n 0, 1) := by decide +kernel
theorem i_109_31 : kI 109 31 = some (.getfield 29, 3) := by decide +kernel
theorem i_109_34 : kI 109 34 = some (.iload_n 2, 1) := by decide +kernel
theorem i_109_35 : kI 109 35 = some (.iaload, 1) := by decide +kernel
theorem i_109_36 : kI 109 36 = some (.iastore, 1) := by decide +kernel
theorem i_109_37 : kI 109 37 = some (.iinc 2 1, 3) := by decide +kernel
theorem i_109_40 : kI 109 40 = some (.goto (-24), 3) := by decide +kernel
theorem i_109_43 : kI 109 43 = some (.iconst 0, 1) := by decide +kernel
theorem i_109_44 : kI 109 44 = some (.istore_n 2, 1) := by decide +kernel
theorem i_109_45 : kI 109 45 = some (.iload_n 2, 1) := by decide +kernel
theorem i_109_46 : kI 109 46 = some (.bipush 6, 2) := by decide +kernel
theorem i_109_48 : kI 109 48 = some (.if_icmp .ge 21, 3) := by decide +kernel
theorem i_109_51 : kI 109 51 = some (.aload_n 0, 1) := by decide +kernel
theorem i_109_52 : kI 109 52 = some (.getfield 17, 3) := by decide +kernel
theorem i_109_55 : kI 109 55 = some (.iload_n 2, 1) := by decide +kernel
theorem i_109_56 : kI 109 56 = some (.aload_n 0, 1) := by decide +kernel
theorem i_109_57 : kI 109 57 = some (.getfield 26, 3) := by decide +kernel
theorem i_109_60 : kI 109 60 = some (.iload_n 2, 1) := by decide +kernel
theorem i_109_61 : kI 109 61 = some (.iaload, 1) := by decide +kernel
theorem i_109_62 : kI 109 62 = some (.iastore, 1) := by decide +kernel
theorem i_109_63 : kI 109 63 = some (.iinc 2 1, 3) := by decide +kernel
theorem i_109_66 : kI 109 66 = some (.goto (-21), 3) := by decide +kernel
theorem i_109_69 : kI 109 69 = some (.iload_n 1, 1) := by decide +kernel
theorem i_109_70 : kI 109 70 = some (.ireturn, 1) := by decide +kernel
theorem i_110_0 : kI 110 0 = some (.aload_n 0, 1) := by decide +kernel
theorem i_110_1 : kI 110 1 = some (.aload_n 0, 1) := by decide +kernel
theorem i_110_2 : kI 110 2 = some (.iload_n 1, 1) := by decide +kernel
theorem i_110_3 : kI 110 3 = some (.invokevirtual 98, 3) := by decide +kernel
theorem i_110_6 : kI 110 6 = some (.ifCond .eq 37, 3) := by decide +kernel
theorem i_110_9 : kI 110 9 = some (.iload_n 2, 1) := by decide +kernel
theorem i_110_10 : kI 110 10 = some (.iconst (-1), 1) := by decide +kernel
theorem i_110_11 : kI 110 11 = some (.if_icmp .eq 28, 3) := by decide +kernel
theorem i_110_14 : kI 110 14 = some (.iload_n 2, 1) := by decide +kernel
theorem i_110_15 : kI 110 15 = some (.iconst 0, 1) := by decide +kernel
theorem i_110_16 : kI 110 16 = some (.aload_n 0, 1) := by decide +kernel
theorem i_110_17 : kI 110 17 = some (.getfield 17, 3) := by decide +kernel
theorem i_110_20 : kI 110 20 = some (.iload_n 1, 1) := by decide +kernel
theorem i_110_21 : kI 110 21 = some (.iaload, 1) := by decide +kernel
theorem i_110_22 : kI 110 22 = some (.iconst 1, 1) := by decide +kernel
theorem i_110_23 : kI 110 23 = some (.isub, 1) := by decide +kernel
theorem i_110_24 : kI 110 24 = some (.invokestatic 94, 3) := by decide +kernel
theorem i_110_27 : kI 110 27 = some (.ifCond .eq 16, 3) := by decide +kernel
theorem i_110_30 : kI 110 30 = some (.aload_n 0, 1) := by decide +kernel
theorem i_110_31 : kI 110 31 = some (.iload_n 1, 1) := by decide +kernel
theorem i_110_32 : kI 110 32 = some (.iload_n 3, 1) := by decide +kernel
theorem i_110_33 : kI 110 33 = some (.invokevirtual 109, 3) := by decide +kernel
theorem i_110_36 : kI 110 36 = some (.ifCond .eq 7, 3) := by decide +kernel
theorem i_110_39 : kI 110 39 = some (.iconst 1, 1) := by decide +kernel
theorem i_110_40 : kI 110 40 = some (.goto 4, 3) := by decide +kernel
theorem i_110_43 : kI 110 43 = some (.iconst 0, 1) := by decide +kernel
theorem i_110_44 : kI 110 44 = some (.invokevirtual 113, 3) := by decide +kernel
theorem i_110_47 : kI 110 47 = some (.ifCond .ne 5, 3) := by decide +kernel
theorem i_110_50 : kI 110 50 = some (.iconst 0, 1) := by decide +kernel
theorem i_110_51 : kI 110 51 = some (.ireturn, 1) := by decide +kernel
theorem i_110_52 : kI 110 52 = some (.iload_n 2, 1) := by decide +kernel
theorem i_110_53 : kI 110 53 = some (.iconst (-1), 1) := by decide +kernel
theorem i_110_54 : kI 110 54 = some (.if_icmp .ne 12, 3) := by decide +kernel
theorem i_110_57 : kI 110 57 = some (.aload_n 0, 1) := by decide +kernel
theorem i_110_58 : kI 110 58 = some (.getfield 17, 3) := by decide +kernel
theorem i_110_61 : kI 110 61 = some (.iload_n 1, 1) := by decide +kernel
theorem i_110_62 : kI 110 62 = some (.iaload, 1) := by decide +kernel
theorem i_110_63 : kI 110 63 = some (.goto 14, 3) := by decide +kernel
theorem i_110_66 : kI 110 66 = some (.aload_n 0, 1) := by decide +kernel
theorem i_110_67 : kI 110 67 = some (.getfield 20, 3) := by decide +kernel
theorem i_110_70 : kI 110 70 = some (.iload_n 1, 1) := by decide +kernel
theorem i_110_71 : kI 110 71 = some (.iload_n 2, 1) := by decide +kernel
theorem i_110_72 : kI 110 72 = some (.iload_n 3, 1) := by decide +kernel
theorem i_110_73 : kI 110 73 = some (.invokestatic 120, 3) := by decide +kernel
theorem i_110_76 : kI 110 76 = some (.iaload, 1) := by decide +kernel
theorem i_110_77 : kI 110 77 = some (.ireturn, 1) := by decide +kernel
theorem i_111_0 : kI 111 0 = some (.aload_n 0, 1) := by decide +kernel
theorem i_111_1 : kI 111 1 = some (.aload_n 0, 1) := by decide +kernel
theorem i_111_2 : kI 111 2 = some (.getfield 130, 3) := by decide +kernel
theorem i_111_5 : kI 111 5 = some (.bipush 60, 2) := by decide +kernel
theorem i_111_7 : kI 111 7 = some (.if_icmp .ne 7, 3) := by decide +kernel
theorem i_111_10 : kI 111 10 = some (.iconst 1, 1) := by decide +kernel
theorem i_111_11 : kI 111 11 = some (.goto 4, 3) := by decide +kernel
theorem i_111_14 : kI 111 14 = some (.iconst 0, 1) := by decide +kernel
theorem i_111_15 : kI 111 15 = some (.putfield 88, 3) := by decide +kernel
theorem i_111_18 : kI 111 18 = some (.aload_n 0, 1) := by decide +kernel
theorem i_111_19 : kI 111 19 = some (.getfield 88, 3) := by decide +kernel
theorem i_111_22 : kI 111 22 = some (.ifCond .le 5, 3) := by decide +kernel
theorem i_111_25 : kI 111 25 = some (.iconst 0, 1) := by decide +kernel
theorem i_111_26 : kI 111 26 = some (.ireturn, 1) := by decide +kernel
theorem i_111_27 : kI 111 27 = some (.aload_n 0, 1) := by decide +kernel
theorem i_111_28 : kI 111 28 = some (.getfield 32, 3) := by decide +kernel
theorem i_111_31 : kI 111 31 = some (.aload_n 0, 1) := by decide +kernel
theorem i_111_32 : kI 111 32 = some (.getfield 130, 3) := by decide +kernel
theorem i_111_35 : kI 111 35 = some (.iload_n 1, 1) := by decide +kernel
theorem i_111_36 : kI 111 36 = some (.iastore, 1) := by decide +kernel
theorem i_111_37 : kI 111 37 = some (.aload_n 0, 1) := by decide +kernel
theorem i_111_38 : kI 111 38 = some (.dup, 1) := by decide +kernel
theorem i_111_39 : kI 111 39 = some (.getfield 130, 3) := by decide +kernel
theorem i_111_42 : kI 111 42 = some (.iconst 1, 1) := by decide +kernel
theorem i_111_43 : kI 111 43 = some (.iadd, 1) := by decide +kernel
theorem i_111_44 : kI 111 44 = some (.putfield 130, 3) := by decide +kernel
theorem i_111_47 : kI 111 47 = some (.aload_n 0, 1) := by decide +kernel
theorem i_111_48 : kI 111 48 = some (.getfield 130, 3) := by decide +kernel
theorem i_111_51 : kI 111 51 = some (.ireturn, 1) := by decide +kernel
theorem i_112_0 : kI 112 0 = some (.aload_n 0, 1) := by decide +kernel
theorem i_112_1 : kI 112 1 = some (.getfield 133, 3) := by decide +kernel
theorem i_112_4 : kI 112 4 = some (.ifCond .ge 8, 3) := by decide +kernel
theorem i_112_7 : kI 112 7 = some (.aload_n 0, 1) := by decide +kernel
theorem i_112_8 : kI 112 8 = some (.iload_n 1, 1) := by decide +kernel
theorem i_112_9 : kI 112 9 = some (.putfield 133, 3) := by decide +kernel
theorem i_112_12 : kI 112 12 = some (.return_, 1) := by decide +kernel
theorem i_113_0 : kI 113 0 = some (.aload_n 0, 1) := by decide +kernel
theorem i_113_1 : kI 113 1 = some (.getfield 136, 3) := by decide +kernel
theorem i_113_4 : kI 113 4 = some (.aload_n 0, 1) := by decide +kernel
theorem i_113_5 : kI 113 5 = some (.getfield 130, 3) := by decide +kernel
theorem i_113_8 : kI 113 8 = some (.if_icmp .ge 20, 3) := by decide +kernel
theorem i_113_11 : kI 113 11 = some (.aload_n 0, 1) := by decide +kernel
theorem i_113_12 : kI 113 12 = some (.getfield 32, 3) := by decide +kernel
theorem i_113_15 : kI 113 15 = some (.aload_n 0, 1) := by decide +kernel
theorem i_113_16 : kI 113 16 = some (.getfield 136, 3) := by decide +kernel
theorem i_113_19 : kI 113 19 = some (.iaload, 1) := by decide +kernel
theorem i_113_20 : kI 113 20 = some (.iload_n 1, 1) := by decide +kernel
theorem i_113_21 : kI 113 21 = some (.iload_n 2, 1) := by decide +kernel
theorem i_113_22 : kI 113 22 = some (.invokestatic 94, 3) := by decide +kernel
theorem i_113_25 : kI 113 25 = some (.ifCond .ne 29, 3) := by decide +kernel
theorem i_113_28 : kI 113 28 = some (.aload_n 0, 1) := by decide +kernel
theorem i_113_29 : kI 113 29 = some (.aload_n 0, 1) := by decide +kernel
theorem i_113_30 : kI 113 30 = some (.getfield 136, 3) := by decide +kernel
theorem i_113_33 : kI 113 33 = some (.aload_n 0, 1) := by decide +kernel
theorem i_113_34 : kI 113 34 = some (.getfield 130, 3) := by decide +kernel
theorem i_113_37 : kI 113 37 = some (.if_icmp .ge 10, 3) := by decide +kernel
theorem i_113_40 : kI 113 40 = some (.aload_n 0, 1) := by decide +kernel
theorem i_113_41 : kI 113 41 = some (.getfield 136, 3) := by decide +kernel
theorem i_113_44 : kI 113 44 = some (.goto 7, 3) := by decide +kernel
theorem i_113_47 : kI 113 47 = some (.aload_n 0, 1) := by decide +kernel
theorem i_113_48 : kI 113 48 = some (.getfield 130, 3) := by decide +kernel
theorem i_113_51 : kI 113 51 = some (.invokevirtual 139, 3) := by decide +kernel
theorem i_113_54 : kI 113 54 = some (.aload_n 0, 1) := by decide +kernel
theorem i_113_55 : kI 113 55 = some (.getfield 133, 3) := by decide +kernel
theorem i_113_58 : kI 113 58 = some (.ifCond .lt 5, 3) := by decide +kernel
theorem i_113_61 : kI 113 61 = some (.iconst 0, 1) := by decide +kernel
theorem i_113_62 : kI 113 62 = some (.ireturn, 1) := by decide +kernel
theorem i_113_63 : kI 113 63 = some (.aload_n 0, 1) := by decide +kernel
theorem i_113_64 : kI 113 64 = some (.dup, 1) := by decide +kernel
theorem i_113_65 : kI 113 65 = some (.getfield 136, 3) := by decide +kernel
theorem i_113_68 : kI 113 68 = some (.iconst 1, 1) := by decide +kernel
theorem i_113_69 : kI 113 69 = some (.iadd, 1) := by decide +kernel
theorem i_113_70 : kI 113 70 = some (.putfield 136, 3) := by decide +kernel
theorem i_113_73 : kI 113 73 = some (.aload_n 0, 1) := by decide +kernel
theorem i_113_74 : kI 113 74 = some (.getfield 32, 3) := by decide +kernel
theorem i_113_77 : kI 113 77 = some (.aload_n 0, 1) := by decide +kernel
theorem i_113_78 : kI 113 78 = some (.getfield 136, 3) := by decide +kernel
theorem i_113_81 : kI 113 81 = some (.iconst 1, 1) := by decide +kernel
theorem i_113_82 : kI 113 82 = some (.isub, 1) := by decide +kernel
theorem i_113_83 : kI 113 83 = some (.iaload, 1) := by decide +kernel
theorem i_113_84 : kI 113 84 = some (.ireturn, 1) := by decide +kernel
theorem i_114_0 : kI 114 0 = some (.aload_n 0, 1) := by decide +kernel
theorem i_114_1 : kI 114 1 = some (.ldc 143, 2) := by decide +kernel
theorem i_114_3 : kI 114 3 = some (.ldc 144, 2) := by decide +kernel
theorem i_114_5 : kI 114 5 = some (.invokevirtual 145, 3) := by decide +kernel
theorem i_114_8 : kI 114 8 = some (.ireturn, 1) := by decide +kernel
theorem i_115_0 : kI 115 0 = some (.iconst 0, 1) := by decide +kernel
theorem i_115_1 : kI 115 1 = some (.istore_n 1, 1) := by decide +kernel
theorem i_115_2 : kI 115 2 = some (.iconst 1, 1) := by decide +kernel
theorem i_115_3 : kI 115 3 = some (.istore_n 2, 1) := by decide +kernel
theorem i_115_4 : kI 115 4 = some (.iload_n 2, 1) := by decide +kernel
theorem i_115_5 : kI 115 5 = some (.ifCond .eq 308, 3) := by decide +kernel
theorem i_115_8 : kI 115 8 = some (.aload_n 0, 1) := by decide +kernel
theorem i_115_9 : kI 115 9 = some (.getfield 133, 3) := by decide +kernel
theorem i_115_12 : kI 115 12 = some (.ifCond .ge 301, 3) := by decide +kernel
theorem i_115_15 : kI 115 15 = some (.aload_n 0, 1) := by decide +kernel
theorem i_115_16 : kI 115 16 = some (.getfield 136, 3) := by decide +kernel
theorem i_115_19 : kI 115 19 = some (.istore_n 3, 1) := by decide +kernel
theorem i_115_20 : kI 115 20 = some (.aload_n 0, 1) := by decide +kernel
theorem i_115_21 : kI 115 21 = some (.iconst 0, 1) := by decide +kernel
theorem i_115_22 : kI 115 22 = some (.bipush 10, 2) := by decide +kernel
theorem i_115_24 : kI 115 24 = some (.invokevirtual 145, 3) := by decide +kernel
theorem i_115_27 : kI 115 27 = some (.istore 4, 2) := by decide +kernel
theorem i_115_29 : kI 115 29 = some (.iload_n 1, 1) := by decide +kernel
theorem i_115_30 : kI 115 30 = some (.bipush 10, 2) := by decide +kernel
theorem i_115_32 : kI 115 32 = some (.if_icmp .lt 8, 3) := by decide +kernel
theorem i_115_35 : kI 115 35 = some (.aload_n 0, 1) := by decide +kernel
theorem i_115_36 : kI 115 36 = some (.iload_n 3, 1) := by decide +kernel
theorem i_115_37 : kI 115 37 = some (.invokevirtual 139, 3) := by decide +kernel
theorem i_115_40 : kI 115 40 = some (.aload_n 0, 1) := by decide +kernel
theorem i_115_41 : kI 115 41 = some (.getfield 133, 3) := by decide +kernel
theorem i_115_44 : kI 115 44 = some (.ifCond .lt 4, 3) := by decide +kernel
theorem i_115_47 : kI 115 47 = some (.return_, 1) := by decide +kernel
theorem i_115_48 : kI 115 48 = some (.aload_n 0, 1) := by decide +kernel
theorem i_115_49 : kI 115 49 = some (.getfield 149, 3) := by decide +kernel
theorem i_115_52 : kI 115 52 = some (.istore 5, 2) := by decide +kernel
theorem i_115_54 : kI 115 54 = some (.aload_n 0, 1) := by decide +kernel
theorem i_115_55 : kI 115 55 = some (.dup, 1) := by decide +kernel
theorem i_115_56 : kI 115 56 = some (.getfield 149, 3) := by decide +kernel
theorem i_115_59 : kI 115 59 = some (.iconst 1, 1) := by decide +kernel
theorem i_115_60 : kI 115 60 = some (.iadd, 1) := by decide +kernel
theorem i_115_61 : kI 115 61 = some (.putfield 149, 3) := by decide +kernel
theorem i_115_64 : kI 115 64 = some (.aload_n 0, 1) := by decide +kernel
theorem i_115_65 : kI 115 65 = some (.getfield 42, 3) := by decide +kernel
theorem i_115_68 : kI 115 68 = some (.iload 5, 2) := by decide +kernel
theorem i_115_70 : kI 115 70 = some (.iload_n 3, 1) := by decide +kernel
theorem i_115_71 : kI 115 71 = some (.iastore, 1) := by decide +kernel
theorem i_115_72 : kI 115 72 = some (.aload_n 0, 1) := by decide +kernel
theorem i_115_73 : kI 115 73 = some (.getfield 45, 3) := by decide +kernel
theorem i_115_76 : kI 115 76 = some (.iload 5, 2) := by decide +kernel
theorem i_115_78 : kI 115 78 = some (.iload_n 1, 1) := by decide +kernel
theorem i_115_79 : kI 115 79 = some (.ifCond .le 14, 3) := by decide +kernel
theorem i_115_82 : kI 115 82 = some (.aload_n 0, 1) := by decide +kernel
theorem i_115_83 : kI 115 83 = some (.getfield 73, 3) := by decide +kernel
theorem i_115_86 : kI 115 86 = some (.iload_n 1, 1) := by decide +kernel
theorem i_115_87 : kI 115 87 = some (.iconst 1, 1) := by decide +kernel
theorem i_115_88 : kI 115 88 = some (.isub, 1) := by decide +kernel
theorem i_115_89 : kI 115 89 = some (.iaload, 1) := by decide +kernel
theorem i_115_90 : kI 115 90 = some (.goto 4, 3) := by decide +kernel
theorem i_115_93 : kI 115 93 = some (.iconst (-1), 1) := by decide +kernel
theorem i_115_94 : kI 115 94 = some (.iastore, 1) := by decide +kernel
theorem i_115_95 : kI 115 95 = some (.aload_n 0, 1) := by decide +kernel
theorem i_115_96 : kI 115 96 = some (.getfield 48, 3) := by decide +kernel
theorem i_115_99 : kI 115 99 = some (.iload 5, 2) := by decide +kernel
theorem i_115_101 : kI 115 101 = some (.iconst (-1), 1) := by decide +kernel
theorem i_115_102 : kI 115 102 = some (.iastore, 1) := by decide +kernel
theorem i_115_103 : kI 115 103 = some (.aload_n 0, 1) := by decide +kernel
theorem i_115_104 : kI 115 104 = some (.getfield 51, 3) := by decide +kernel
theorem i_115_107 : kI 115 107 = some (.iload 5, 2) := by decide +kernel
theorem i_115_109 : kI 115 109 = some (.iconst (-1), 1) := by decide +kernel
theorem i_115_110 : kI 115 110 = some (.iastore, 1) := by decide +kernel
theorem i_115_111 : kI 115 111 = some (.aload_n 0, 1) := by decide +kernel
theorem i_115_112 : kI 115 112 = some (.getfield 79, 3) := by decide +kernel
theorem i_115_115 : kI 115 115 = some (.iload 5, 2) := by decide +kernel
theorem i_115_117 : kI 115 117 = some (.iload 5, 2) := by decide +kernel
theorem i_115_119 : kI 115 119 = some (.iastore, 1) := by decide +kernel
theorem i_115_120 : kI 115 120 = some (.iload_n 1, 1) := by decide +kernel
theorem i_115_121 : kI 115 121 = some (.ifCond .le 49, 3) := by decide +kernel
theorem i_115_124 : kI 115 124 = some (.aload_n 0, 1) := by decide +kernel
theorem i_115_125 : kI 115 125 = some (.getfield 48, 3) := by decide +kernel
theorem i_115_128 : kI 115 128 = some (.aload_n 0, 1) := by decide +kernel
theorem i_115_129 : kI 115 129 = some (.getfield 45, 3) := by decide +kernel
theorem i_115_132 : kI 115 132 = some (.iload 5, 2) := by decide +kernel
theorem i_115_134 : kI 115 134 = some (.iaload, 1) := by decide +kernel
theorem i_115_135 : kI 115 135 = some (.iaload, 1) := by decide +kernel
theorem i_115_136 : kI 115 136 = some (.ifCond .ge 20, 3) := by decide +kernel
theorem i_115_139 : kI 115 139 = some (.aload_n 0, 1) := by decide +kernel
theorem i_115_140 : kI 115 140 = some (.getfield 48, 3) := by decide +kernel
theorem i_115_143 : kI 115 143 = some (.aload_n 0, 1) := by decide +kernel
theorem i_115_144 : kI 115 144 = some (.getfield 45, 3) := by decide +kernel
theorem i_115_147 : kI 115 147 = some (.iload 5, 2) := by decide +kernel
theorem i_115_149 : kI 115 149 = some (.iaload, 1) := by decide +kernel
theorem i_115_150 : kI 115 150 = some (.iload 5, 2) := by decide +kernel
theorem i_115_152 : kI 115 152 = some (.iastore, 1) := by decide +kernel
theorem i_115_153 : kI 115 153 = some (.goto 17, 3) := by decide +kernel
theorem i_115_156 : kI 115 156 = some (.aload_n 0, 1) := by decide +kernel
theorem i_115_157 : kI 115 157 = some (.getfield 51, 3) := by decide +kernel
theorem i_115_160 : kI 115 160 = some (.aload_n 0, 1) := by decide +kernel
theorem i_115_161 : kI 115 161 = some (.getfield 45, 3) := by decide +kernel
theorem i_115_164 : kI 115 164 = some (.iload 5, 2) := by decide +kernel
theorem i_115_166 : kI 115 166 = some (.iaload, 1) := by decide +kernel
theorem i_115_167 : kI 115 167 = some (.iload 5, 2) := by decide +kernel
theorem i_115_169 : kI 115 169 = some (.iastore, 1) := by decide +kernel
theorem i_115_170 : kI 115 170 = some (.aload_n 0, 1) := by decide +kernel
theorem i_115_171 : kI 115 171 = some (.iload 4, 2) := by decide +kernel
theorem i_115_173 : kI 115 173 = some (.invokevirtual 152, 3) := by decide +kernel
theorem i_115_176 : kI 115 176 = some (.aload_n 0, 1) := by decide +kernel
theorem i_115_177 : kI 115 177 = some (.getfield 73, 3) := by decide +kernel
theorem i_115_180 : kI 115 180 = some (.iload_n 1, 1) := by decide +kernel
theorem i_115_181 : kI 115 181 = some (.iload 5, 2) := by decide +kernel
theorem i_115_183 : kI 115 183 = some (.iastore, 1) := by decide +kernel
theorem i_115_184 : kI 115 184 = some (.aload_n 0, 1) := by decide +kernel
theorem i_115_185 : kI 115 185 = some (.getfield 76, 3) := by decide +kernel
theorem i_115_188 : kI 115 188 = some (.iload_n 1, 1) := by decide +kernel
theorem i_115_189 : kI 115 189 = some (.iload 4, 2) := by decide +kernel
theorem i_115_191 : kI 115 191 = some (.ifCond .ne 7, 3) := by decide +kernel
theorem i_115_194 : kI 115 194 = some (.iconst 0, 1) := by decide +kernel
theorem i_115_195 : kI 115 195 = some (.goto 20, 3) := by decide +kernel
theorem i_115_198 : kI 115 198 = some (.iload 4, 2) := by decide +kernel
theorem i_115_200 : kI 115 200 = some (.iconst 3, 1) := by decide +kernel
theorem i_115_201 : kI 115 201 = some (.if_icmp .lt 13, 3) := by decide +kernel
theorem i_115_204 : kI 115 204 = some (.iload 4, 2) := by decide +kernel
theorem i_115_206 : kI 115 206 = some (.iconst 5, 1) := by decide +kernel
theorem i_115_207 : kI 115 207 = some (.if_icmp .gt 7, 3) := by decide +kernel
theorem i_115_210 : kI 115 210 = some (.iconst 2, 1) := by decide +kernel
theorem i_115_211 : kI 115 211 = some (.goto 4, 3) := by decide +kernel
theorem i_115_214 : kI 115 214 = some (.iconst 1, 1) := by decide +kernel
theorem i_115_215 : kI 115 215 = some (.iastore, 1) := by decide +kernel
theorem i_115_216 : kI 115 216 = some (.iinc 1 1, 3) := by decide +kernel
theorem i_115_219 : kI 115 219 = some (.aload_n 0, 1) := by decide +kernel
theorem i_115_220 : kI 115 220 = some (.getfield 133, 3) := by decide +kernel
theorem i_115_223 : kI 115 223 = some (.ifCond .ge 77, 3) := by decide +kernel
theorem i_115_226 : kI 115 226 = some (.iload_n 1, 1) := by decide +kernel
theorem i_115_227 : kI 115 227 = some (.ifCond .le 73, 3) := by decide +kernel
theorem i_115_230 : kI 115 230 = some (.aload_n 0, 1) := by decide +kernel
theorem i_115_231 : kI 115 231 = some (.getfield 76, 3) := by decide +kernel
theorem i_115_234 : kI 115 234 = some (.iload_n 1, 1) := by decide +kernel
theorem i_115_235 : kI 115 235 = some (.iconst 1, 1) := by decide +kernel
theorem i_115_236 : kI 115 236 = some (.isub, 1) := by decide +kernel
theorem i_115_237 : kI 115 237 = some (.iaload, 1) := by decide +kernel
theorem i_115_238 : kI 115 238 = some (.ifCond .ne 62, 3) := by decide +kernel
theorem i_115_241 : kI 115 241 = some (.iinc 1 (-1), 3) := by decide +kernel
theorem i_115_244 : kI 115 244 = some (.aload_n 0, 1) := by decide +kernel
theorem i_115_245 : kI 115 245 = some (.aload_n 0, 1) := by decide +kernel
theorem i_115_246 : kI 115 246 = some (.getfield 73, 3) := by decide +kernel
theorem i_115_249 : kI 115 249 = some (.iload_n 1, 1) := by decide +kernel
theorem i_115_250 : kI 115 250 = some (.iaload, 1) := by decide +kernel
theorem i_115_251 : kI 115 251 = some (.aload_n 0, 1) := by decide +kernel
theorem i_115_252 : kI 115 252 = some (.aload_n 0, 1) := by decide +kernel
theorem i_115_253 : kI 115 253 = some (.getfield 73, 3) := by decide +kernel
theorem i_115_256 : kI 115 256 = some (.iload_n 1, 1) := by decide +kernel
theorem i_115_257 : kI 115 257 = some (.iaload, 1) := by decide +kernel
theorem i_115_258 : kI 115 258 = some (.invokevirtual 155, 3) := by decide +kernel
theorem i_115_261 : kI 115 261 = some (.invokevirtual 159, 3) := by decide +kernel
theorem i_115_264 : kI 115 264 = some (.aload_n 0, 1) := by decide +kernel
theorem i_115_265 : kI 115 265 = some (.getfield 79, 3) := by decide +kernel
theorem i_115_268 : kI 115 268 = some (.aload_n 0, 1) := by decide +kernel
theorem i_115_269 : kI 115 269 = some (.getfield 73, 3) := by decide +kernel
theorem i_115_272 : kI 115 272 = some (.iload_n 1, 1) := by decide +kernel
theorem i_115_273 : kI 115 273 = some (.iaload, 1) := by decide +kernel
theorem i_115_274 : kI 115 274 = some (.aload_n 0, 1) := by decide +kernel
theorem i_115_275 : kI 115 275 = some (.getfield 149, 3) := by decide +kernel
theorem i_115_278 : kI 115 278 = some (.iconst 1, 1) := by decide +kernel
theorem i_115_279 : kI 115 279 = some (.isub, 1) := by decide +kernel
theorem i_115_280 : kI 115 280 = some (.iastore, 1) := by decide +kernel
theorem i_115_281 : kI 115 281 = some (.iload_n 1, 1) := by decide +kernel
theorem i_115_282 : kI 115 282 = some (.ifCond .le (-63), 3) := by decide +kernel
theorem i_115_285 : kI 115 285 = some (.aload_n 0, 1) := by decide +kernel
theorem i_115_286 : kI 115 286 = some (.getfield 76, 3) := by decide +kernel
theorem i_115_289 : kI 115 289 = some (.iload_n 1, 1) := by decide +kernel
theorem i_115_290 : kI 115 290 = some (.iconst 1, 1) := by decide +kernel
theorem i_115_291 : kI 115 291 = some (.isub, 1) := by decide +kernel
theorem i_115_292 : kI 115 292 = some (.dup2, 1) := by decide +kernel
theorem i_115_293 : kI 115 293 = some (.iaload, 1) := by decide +kernel
theorem i_115_294 : kI 115 294 = some (.iconst 1, 1) := by decide +kernel
theorem i_115_295 : kI 115 295 = some (.isub, 1) := by decide +kernel
theorem i_115_296 : kI 115 296 = some (.iastore, 1) := by decide +kernel
theorem i_115_297 : kI 115 297 = some (.goto (-78), 3) := by decide +kernel
theorem i_115_300 : kI 115 300 = some (.iload_n 1, 1) := by decide +kernel
theorem i_115_301 : kI 115 301 = some (.ifCond .le 7, 3) := by decide +kernel
theorem i_115_304 : kI 115 304 = some (.iconst 1, 1) := by decide +kernel
theorem i_115_305 : kI 115 305 = some (.goto 4, 3) := by decide +kernel
theorem i_115_308 : kI 115 308 = some (.iconst 0, 1) := by decide +kernel
theorem i_115_309 : kI 115 309 = some (.istore_n 2, 1) := by decide +kernel
theorem i_115_310 : kI 115 310 = some (.goto (-306), 3) := by decide +kernel
theorem i_115_313 : kI 115 313 = some (.return_, 1) := by decide +kernel
theorem i_116_0 : kI 116 0 = some (.iconst 0, 1) := by decide +kernel
theorem i_116_1 : kI 116 1 = some (.istore_n 2, 1) := by decide +kernel
theorem i_116_2 : kI 116 2 = some (.iload_n 1, 1) := by decide +kernel
theorem i_116_3 : kI 116 3 = some (.ifCond .ne 15, 3) := by decide +kernel
theorem i_116_6 : kI 116 6 = some (.aload_n 0, 1) := by decide +kernel
theorem i_116_7 : kI 116 7 = some (.iconst 0, 1) := by decide +kernel
theorem i_116_8 : kI 116 8 = some (.aload_n 0, 1) := by decide +kernel
theorem i_116_9 : kI 116 9 = some (.getfield 91, 3) := by decide +kernel
theorem i_116_12 : kI 116 12 = some (.iconst 1, 1) := by decide +kernel
theorem i_116_13 : kI 116 13 = some (.isub, 1) := by decide +kernel
theorem i_116_14 : kI 116 14 = some (.invokevirtual 145, 3) := by decide +kernel
theorem i_116_17 : kI 116 17 = some (.istore_n 2, 1) := by decide +kernel
theorem i_116_18 : kI 116 18 = some (.iload_n 1, 1) := by decide +kernel
theorem i_116_19 : kI 116 19 = some (.iconst 1, 1) := by decide +kernel
theorem i_116_20 : kI 116 20 = some (.if_icmp .eq 20, 3) := by decide +kernel
theorem i_116_23 : kI 116 23 = some (.iload_n 1, 1) := by decide +kernel
theorem i_116_24 : kI 116 24 = some (.iconst 4, 1) := by decide +kernel
theorem i_116_25 : kI 116 25 = some (.if_icmp .eq 15, 3) := by decide +kernel
theorem i_116_28 : kI 116 28 = some (.iload_n 1, 1) := by decide +kernel
theorem i_116_29 : kI 116 29 = some (.bipush 7, 2) := by decide +kernel
theorem i_116_31 : kI 116 31 = some (.if_icmp .eq 9, 3) := by decide +kernel
theorem i_116_34 : kI 116 34 = some (.iload_n 1, 1) := by decide +kernel
theorem i_116_35 : kI 116 35 = some (.bipush 10, 2) := by decide +kernel
theorem i_116_37 : kI 116 37 = some (.if_icmp .ne 8, 3) := by decide +kernel
theorem i_116_40 : kI 116 40 = some (.aload_n 0, 1) := by decide +kernel
theorem i_116_41 : kI 116 41 = some (.invokevirtual 163, 3) := by decide +kernel
theorem i_116_44 : kI 116 44 = some (.istore_n 2, 1) := by decide +kernel
theorem i_116_45 : kI 116 45 = some (.iload_n 1, 1) := by decide +kernel
theorem i_116_46 : kI 116 46 = some (.iconst 1, 1) := by decide +kernel
theorem i_116_47 : kI 116 47 = some (.if_icmp .ne 10, 3) := by decide +kernel
theorem i_116_50 : kI 116 50 = some (.aload_n 0, 1) := by decide +kernel
theorem i_116_51 : kI 116 51 = some (.iconst 0, 1) := by decide +kernel
theorem i_116_52 : kI 116 52 = some (.iconst 5, 1) := by decide +kernel
theorem i_116_53 : kI 116 53 = some (.invokevirtual 145, 3) := by decide +kernel
theorem i_116_56 : kI 116 56 = some (.istore_n 2, 1) := by decide +kernel
theorem i_116_57 : kI 116 57 = some (.iload_n 1, 1) := by decide +kernel
theorem i_116_58 : kI 116 58 = some (.iconst 1, 1) := by decide +kernel
theorem i_116_59 : kI 116 59 = some (.if_icmp .eq 8, 3) := by decide +kernel
theorem i_116_62 : kI 116 62 = some (.iload_n 1, 1) := by decide +kernel
theorem i_116_63 : kI 116 63 = some (.iconst 4, 1) := by decide +kernel
theorem i_116_64 : kI 116 64 = some (.if_icmp .ne 8, 3) := by decide +kernel
theorem i_116_67 : kI 116 67 = some (.aload_n 0, 1) := by decide +kernel
theorem i_116_68 : kI 116 68 = some (.invokevirtual 163, 3) := by decide +kernel
theorem i_116_71 : kI 116 71 = some (.istore_n 2, 1) := by decide +kernel
theorem i_116_72 : kI 116 72 = some (.iload_n 1, 1) := by decide +kernel
theorem i_116_73 : kI 116 73 = some (.bipush 7, 2) := by decide +kernel
theorem i_116_75 : kI 116 75 = some (.if_icmp .ne 10, 3) := by decide +kernel
theorem i_116_78 : kI 116 78 = some (.aload_n 0, 1) := by decide +kernel
theorem i_116_79 : kI 116 79 = some (.iconst 0, 1) := by decide +kernel
theorem i_116_80 : kI 116 80 = some (.iconst 1, 1) := by decide +kernel
theorem i_116_81 : kI 116 81 = some (.invokevirtual 145, 3) := by decide +kernel
theorem i_116_84 : kI 116 84 = some (.istore_n 2, 1) := by decide +kernel
theorem i_116_85 : kI 116 85 = some (.iload_n 1, 1) := by decide +kernel
theorem i_116_86 : kI 116 86 = some (.bipush 10, 2) := by decide +kernel
theorem i_116_88 : kI 116 88 = some (.if_icmp .ne 10, 3) := by decide +kernel
theorem i_116_91 : kI 116 91 = some (.aload_n 0, 1) := by decide +kernel
theorem i_116_92 : kI 116 92 = some (.iconst 0, 1) := by decide +kernel
theorem i_116_93 : kI 116 93 = some (.iconst 3, 1) := by decide +kernel
theorem i_116_94 : kI 116 94 = some (.invokevirtual 145, 3) := by decide +kernel
theorem i_116_97 : kI 116 97 = some (.istore_n 2, 1) := by decide +kernel
theorem i_116_98 : kI 116 98 = some (.iload_n 1, 1) := by decide +kernel
theorem i_116_99 : kI 116 99 = some (.bipush 10, 2) := by decide +kernel
theorem i_116_101 : kI 116 101 = some (.if_icmp .ne 8, 3) := by decide +kernel
theorem i_116_104 : kI 116 104 = some (.aload_n 0, 1) := by decide +kernel
theorem i_116_105 : kI 116 105 = some (.invokevirtual 163, 3) := by decide +kernel
theorem i_116_108 : kI 116 108 = some (.istore_n 2, 1) := by decide +kernel
theorem i_116_109 : kI 116 109 = some (.iload_n 1, 1) := by decide +kernel
theorem i_116_110 : kI 116 110 = some (.bipush 8, 2) := by decide +kernel
theorem i_116_112 : kI 116 112 = some (.if_icmp .ne 11, 3) := by decide +kernel
theorem i_116_115 : kI 116 115 = some (.aload_n 0, 1) := by decide +kernel
theorem i_116_116 : kI 116 116 = some (.iconst 0, 1) := by decide +kernel
theorem i_116_117 : kI 116 117 = some (.bipush 100, 2) := by decide +kernel
theorem i_116_119 : kI 116 119 = some (.invokevirtual 145, 3) := by decide +kernel
theorem i_116_122 : kI 116 122 = some (.istore_n 2, 1) := by decide +kernel
theorem i_116_123 : kI 116 123 = some (.iload_n 1, 1) := by decide +kernel
theorem i_116_124 : kI 116 124 = some (.iconst 2, 1) := by decide +kernel
theorem i_116_125 : kI 116 125 = some (.if_icmp .eq 4, 3) := by decide +kernel
theorem i_116_128 : kI 116 128 = some (.return_, 1) := by decide +kernel
theorem i_116_129 : kI 116 129 = some (.aload_n 0, 1) := by decide +kernel
theorem i_116_130 : kI 116 130 = some (.iconst 1, 1) := by decide +kernel
theorem i_116_131 : kI 116 131 = some (.bipush 8, 2) := by decide +kernel
theorem i_116_133 : kI 116 133 = some (.invokevirtual 145, 3) := by decide +kernel
theorem i_116_136 : kI 116 136 = some (.istore_n 2, 1) := by decide +kernel
theorem i_116_137 : kI 116 137 = some (.iconst 0, 1) := by decide +kernel
theorem i_116_138 : kI 116 138 = some (.istore_n 3, 1) := by decide +kernel
theorem i_116_139 : kI 116 139 = some (.iload_n 3, 1) := by decide +kernel
theorem i_116_140 : kI 116 140 = some (.iload_n 2, 1) := by decide +kernel
theorem i_116_141 : kI 116 141 = some (.if_icmp .ge 22, 3) := by decide +kernel
theorem i_116_144 : kI 116 144 = some (.aload_n 0, 1) := by decide +kernel
theorem i_116_145 : kI 116 145 = some (.getfield 133, 3) := by decide +kernel
theorem i_116_148 : kI 116 148 = some (.ifCond .ge 15, 3) := by decide +kernel
theorem i_116_151 : kI 116 151 = some (.aload_n 0, 1) := by decide +kernel
theorem i_116_152 : kI 116 152 = some (.invokevirtual 163, 3) := by decide +kernel
theorem i_116_155 : kI 116 155 = some (.istore 4, 2) := by decide +kernel
theorem i_116_157 : kI 116 157 = some (.iinc 3 1, 3) := by decide +kernel
theorem i_116_160 : kI 116 160 = some (.goto (-21), 3) := by decide +kernel
theorem i_116_163 : kI 116 163 = some (.return_, 1) := by decide +kernel
theorem i_117_0 : kI 117 0 = some (.aload_n 0, 1) := by decide +kernel
theorem i_117_1 : kI 117 1 = some (.getfield 35, 3) := by decide +kernel
theorem i_117_4 : kI 117 4 = some (.aload_n 0, 1) := by decide +kernel
theorem i_117_5 : kI 117 5 = some (.getfield 42, 3) := by decide +kernel
theorem i_117_8 : kI 117 8 = some (.iload_n 1, 1) := by decide +kernel
theorem i_117_9 : kI 117 9 = some (.iaload, 1) := by decide +kernel
theorem i_117_10 : kI 117 10 = some (.iload_n 2, 1) := by decide +kernel
theorem i_117_11 : kI 117 11 = some (.iadd, 1) := by decide +kernel
theorem i_117_12 : kI 117 12 = some (.iaload, 1) := by decide +kernel
theorem i_117_13 : kI 117 13 = some (.ireturn, 1) := by decide +kernel
theorem i_118_0 : kI 118 0 = some (.aload_n 0, 1) := by decide +kernel
theorem i_118_1 : kI 118 1 = some (.iload_n 1, 1) := by decide +kernel
theorem i_118_2 : kI 118 2 = some (.iconst 0, 1) := by decide +kernel
theorem i_118_3 : kI 118 3 = some (.invokevirtual 166, 3) := by decide +kernel
theorem i_118_6 : kI 118 6 = some (.ireturn, 1) := by decide +kernel
theorem i_119_0 : kI 119 0 = some (.aload_n 0, 1) := by decide +kernel
theorem i_119_1 : kI 119 1 = some (.getfield 48, 3) := by decide +kernel
theorem i_119_4 : kI 119 4 = some (.iload_n 1, 1) := by decide +kernel
theorem i_119_5 : kI 119 5 = some (.iaload, 1) := by decide +kernel
theorem i_119_6 : kI 119 6 = some (.ifCond .ge 7, 3) := by decide +kernel
theorem i_119_9 : kI 119 9 = some (.iconst 0, 1) := by decide +kernel
theorem i_119_10 : kI 119 10 = some (.goto 14, 3) := by decide +kernel
theorem i_119_13 : kI 119 13 = some (.aload_n 0, 1) := by decide +kernel
theorem i_119_14 : kI 119 14 = some (.getfield 54, 3) := by decide +kernel
theorem i_119_17 : kI 119 17 = some (.aload_n 0, 1) := by decide +kernel
theorem i_119_18 : kI 119 18 = some (.getfield 48, 3) := by decide +kernel
theorem i_119_21 : kI 119 21 = some (.iload_n 1, 1) := by decide +kernel
theorem i_119_22 : kI 119 22 = some (.iaload, 1) := by decide +kernel
theorem i_119_23 : kI 119 23 = some (.iaload, 1) := by decide +kernel
theorem i_119_24 : kI 119 24 = some (.istore_n 3, 1) := by decide +kernel
theorem i_119_25 : kI 119 25 = some (.aload_n 0, 1) := by decide +kernel
theorem i_119_26 : kI 119 26 = some (.getfield 51, 3) := by decide +kernel
theorem i_119_29 : kI 119 29 = some (.iload_n 1, 1) := by decide +kernel
theorem i_119_30 : kI 119 30 = some (.iaload, 1) := by decide +kernel
theorem i_119_31 : kI 119 31 = some (.ifCond .ge 7, 3) := by decide +kernel
theorem i_119_34 : kI 119 34 = some (.iconst 0, 1) := by decide +kernel
theorem i_119_35 : kI 119 35 = some (.goto 14, 3) := by decide +kernel
theorem i_119_38 : kI 119 38 = some (.aload_n 0, 1) := by decide +kernel
theorem i_119_39 : kI 119 39 = some (.getfield 54, 3) := by decide +kernel
theorem i_119_42 : kI 119 42 = some (.aload_n 0, 1) := by decide +kernel
theorem i_119_43 : kI 119 43 = some (.getfield 51, 3) := by decide +kernel
theorem i_119_46 : kI 119 46 = some (.iload_n 1, 1) := by decide +kernel
theorem i_119_47 : kI 119 47 = some (.iaload, 1) := by decide +kernel
theorem i_119_48 : kI 119 48 = some (.iaload, 1) := by decide +kernel
theorem i_119_49 : kI 119 49 = some (.istore 4, 2) := by decide +kernel
theorem i_119_51 : kI 119 51 = some (.iconst 1, 1) := by decide +kernel
theorem i_119_52 : kI 119 52 = some (.istore 5, 2) := by decide +kernel
theorem i_119_54 : kI 119 54 = some (.iload_n 3, 1) := by decide +kernel
theorem i_119_55 : kI 119 55 = some (.istore 6, 2) := by decide +kernel
theorem i_119_57 : kI 119 57 = some (.iload_n 2, 1) := by decide +kernel
theorem i_119_58 : kI 119 58 = some (.ifCond .ne 16, 3) := by decide +kernel
theorem i_119_61 : kI 119 61 = some (.aload_n 0, 1) := by decide +kernel
theorem i_119_62 : kI 119 62 = some (.getfield 7, 3) := by decide +kernel
theorem i_119_65 : kI 119 65 = some (.aload_n 0, 1) := by decide +kernel
theorem i_119_66 : kI 119 66 = some (.iload_n 1, 1) := by decide +kernel
theorem i_119_67 : kI 119 67 = some (.iconst 1, 1) := by decide +kernel
theorem i_119_68 : kI 119 68 = some (.invokevirtual 166, 3) := by decide +kernel
theorem i_119_71 : kI 119 71 = some (.iaload, 1) := by decide +kernel
theorem i_119_72 : kI 119 72 = some (.istore 6, 2) := by decide +kernel
theorem i_119_74 : kI 119 74 = some (.iload_n 2, 1) := by decide +kernel
theorem i_119_75 : kI 119 75 = some (.iconst 1, 1) := by decide +kernel
theorem i_119_76 : kI 119 76 = some (.if_icmp .eq 20, 3) := by decide +kernel
theorem i_119_79 : kI 119 79 = some (.iload_n 2, 1) := by decide +kernel
theorem i_119_80 : kI 119 80 = some (.bipush 7, 2) := by decide +kernel
theorem i_119_82 : kI 119 82 = some (.if_icmp .eq 14, 3) := by decide +kernel
theorem i_119_85 : kI 119 85 = some (.iload_n 2, 1) := by decide +kernel
theorem i_119_86 : kI 119 86 = some (.bipush 10, 2) := by decide +kernel
theorem i_119_88 : kI 119 88 = some (.if_icmp .eq 8, 3) := by decide +kernel
theorem i_119_91 : kI 119 91 = some (.iload_n 2, 1) := by decide +kernel
theorem i_119_92 : kI 119 92 = some (.iconst 4, 1) := by decide +kernel
theorem i_119_93 : kI 119 93 = some (.if_icmp .ne 18, 3) := by decide +kernel
theorem i_119_96 : kI 119 96 = some (.aload_n 0, 1) := by decide +kernel
theorem i_119_97 : kI 119 97 = some (.iload_n 1, 1) := by decide +kernel
theorem i_119_98 : kI 119 98 = some (.iconst 1, 1) := by decide +kernel
theorem i_119_99 : kI 119 99 = some (.invokevirtual 166, 3) := by decide +kernel
theorem i_119_102 : kI 119 102 = some (.iconst 0, 1) := by decide +kernel
theorem i_119_103 : kI 119 103 = some (.iload_n 3, 1) := by decide +kernel
theorem i_119_104 : kI 119 104 = some (.iconst 1, 1) := by decide +kernel
theorem i_119_105 : kI 119 105 = some (.isub, 1) := by decide +kernel
theorem i_119_106 : kI 119 106 = some (.invokestatic 94, 3) := by decide +kernel
theorem i_119_109 : kI 119 109 = some (.istore 5, 2) := by decide +kernel
theorem i_119_111 : kI 119 111 = some (.iload_n 2, 1) := by decide +kernel
theorem i_119_112 : kI 119 112 = some (.iconst 4, 1) := by decide +kernel
theorem i_119_113 : kI 119 113 = some (.if_icmp .ne 32, 3) := by decide +kernel
theorem i_119_116 : kI 119 116 = some (.iload 5, 2) := by decide +kernel
theorem i_119_118 : kI 119 118 = some (.ifCond .eq 24, 3) := by decide +kernel
theorem i_119_121 : kI 119 121 = some (.aload_n 0, 1) := by decide +kernel
theorem i_119_122 : kI 119 122 = some (.iload_n 1, 1) := by decide +kernel
theorem i_119_123 : kI 119 123 = some (.iconst 2, 1) := by decide +kernel
theorem i_119_124 : kI 119 124 = some (.invokevirtual 166, 3) := by decide +kernel
theorem i_119_127 : kI 119 127 = some (.iconst 0, 1) := by decide +kernel
theorem i_119_128 : kI 119 128 = some (.iload 4, 2) := by decide +kernel
theorem i_119_130 : kI 119 130 = some (.iconst 1, 1) := by decide +kernel
theorem i_119_131 : kI 119 131 = some (.isub, 1) := by decide +kernel
theorem i_119_132 : kI 119 132 = some (.invokestatic 94, 3) := by decide +kernel
theorem i_119_135 : kI 119 135 = some (.ifCond .eq 7, 3) := by decide +kernel
theorem i_119_138 : kI 119 138 = some (.iconst 1, 1) := by decide +kernel
theorem i_119_139 : kI 119 139 = some (.goto 4, 3) := by decide +kernel
theorem i_119_142 : kI 119 142 = some (.iconst 0, 1) := by decide +kernel
theorem i_119_143 : kI 119 143 = some (.istore 5, 2) := by decide +kernel
theorem i_119_145 : kI 119 145 = some (.iload_n 2, 1) := by decide +kernel
theorem i_119_146 : kI 119 146 = some (.bipush 10, 2) := by decide +kernel
theorem i_119_148 : kI 119 148 = some (.if_icmp .ne 31, 3) := by decide +kernel
theorem i_119_151 : kI 119 151 = some (.iload 5, 2) := by decide +kernel
theorem i_119_153 : kI 119 153 = some (.ifCond .eq 23, 3) := by decide +kernel
theorem i_119_156 : kI 119 156 = some (.aload_n 0, 1) := by decide +kernel
theorem i_119_157 : kI 119 157 = some (.iload_n 1, 1) := by decide +kernel
theorem i_119_158 : kI 119 158 = some (.iconst 3, 1) := by decide +kernel
theorem i_119_159 : kI 119 159 = some (.invokevirtual 166, 3) := by decide +kernel
theorem i_119_162 : kI 119 162 = some (.iconst 0, 1) := by decide +kernel
theorem i_119_163 : kI 119 163 = some (.iload_n 3, 1) := by decide +kernel
theorem i_119_164 : kI 119 164 = some (.iconst 1, 1) := by decide +kernel
theorem i_119_165 : kI 119 165 = some (.isub, 1) := by decide +kernel
theorem i_119_166 : kI 119 166 = some (.invokestatic 94, 3) := by decide +kernel
theorem i_119_169 : kI 119 169 = some (.ifCond .eq 7, 3) := by decide +kernel
theorem i_119_172 : kI 119 172 = some (.iconst 1, 1) := by decide +kernel
theorem i_119_173 : kI 119 173 = some (.goto 4, 3) := by decide +kernel
theorem i_119_176 : kI 119 176 = some (.iconst 0, 1) := by decide +kernel
theorem i_119_177 : kI 119 177 = some (.istore 5, 2) := by decide +kernel
theorem i_119_179 : kI 119 179 = some (.iload_n 2, 1) := by decide +kernel
theorem i_119_180 : kI 119 180 = some (.iconst 5, 1) := by decide +kernel
theorem i_119_181 : kI 119 181 = some (.if_icmp .ne 16, 3) := by decide +kernel
theorem i_119_184 : kI 119 184 = some (.iload_n 3, 1) := by decide +kernel
theorem i_119_185 : kI 119 185 = some (.iload 4, 2) := by decide +kernel
theorem i_119_187 : kI 119 187 = some (.if_icmp .ne 7, 3) := by decide +kernel
theorem i_119_190 : kI 119 190 = some (.iconst 1, 1) := by decide +kernel
theorem i_119_191 : kI 119 191 = some (.goto 4, 3) := by decide +kernel
theorem i_119_194 : kI 119 194 = some (.iconst 0, 1) := by decide +kernel
theorem i_119_195 : kI 119 195 = some (.istore 5, 2) := by decide +kernel
theorem i_119_197 : kI 119 197 = some (.iload_n 2, 1) := by decide +kernel
theorem i_119_198 : kI 119 198 = some (.iconst 3, 1) := by decide +kernel
theorem i_119_199 : kI 119 199 = some (.if_icmp .eq 8, 3) := by decide +kernel
theorem i_119_202 : kI 119 202 = some (.iload_n 2, 1) := by decide +kernel
theorem i_119_203 : kI 119 203 = some (.iconst 4, 1) := by decide +kernel
theorem i_119_204 : kI 119 204 = some (.if_icmp .ne 9, 3) := by decide +kernel
theorem i_119_207 : kI 119 207 = some (.iload_n 3, 1) := by decide +kernel
theorem i_119_208 : kI 119 208 = some (.iload 4, 2) := by decide +kernel
theorem i_119_210 : kI 119 210 = some (.iadd, 1) := by decide +kernel
theorem i_119_211 : kI 119 211 = some (.istore 6, 2) := by decide +kernel
theorem i_119_213 : kI 119 213 = some (.iload_n 2, 1) := by decide +kernel
theorem i_119_214 : kI 119 214 = some (.bipush 9, 2) := by decide +kernel
theorem i_119_216 : kI 119 216 = some (.if_icmp .ne 6, 3) := by decide +kernel
theorem i_119_219 : kI 119 219 = some (.iconst 1, 1) := by decide +kernel
theorem i_119_220 : kI 119 220 = some (.istore 6, 2) := by decide +kernel
theorem i_119_222 : kI 119 222 = some (.iload_n 2, 1) := by decide +kernel
theorem i_119_223 : kI 119 223 = some (.bipush 10, 2) := by decide +kernel
theorem i_119_225 : kI 119 225 = some (.if_icmp .ne 6, 3) := by decide +kernel
theorem i_119_228 : kI 119 228 = some (.iconst 2, 1) := by decide +kernel
theorem i_119_229 : kI 119 229 = some (.istore 6, 2) := by decide +kernel
theorem i_119_231 : kI 119 231 = some (.iload_n 2, 1) := by decide +kernel
theorem i_119_232 : kI 119 232 = some (.iconst 2, 1) := by decide +kernel
theorem i_119_233 : kI 119 233 = some (.if_icmp .ne 58, 3) := by decide +kernel
theorem i_119_236 : kI 119 236 = some (.aload_n 0, 1) := by decide +kernel
theorem i_119_237 : kI 119 237 = some (.iload_n 1, 1) := by decide +kernel
theorem i_119_238 : kI 119 238 = some (.iconst 1, 1) := by decide +kernel
theorem i_119_239 : kI 119 239 = some (.invokevirtual 166, 3) := by decide +kernel
theorem i_119_242 : kI 119 242 = some (.istore 6, 2) := by decide +kernel
theorem i_119_244 : kI 119 244 = some (.iconst 0, 1) := by decide +kernel
theorem i_119_245 : kI 119 245 = some (.istore 7, 2) := by decide +kernel
theorem i_119_247 : kI 119 247 = some (.iload 7, 2) := by decide +kernel
theorem i_119_249 : kI 119 249 = some (.iload 6, 2) := by decide +kernel
theorem i_119_251 : kI 119 251 = some (.if_icmp .ge 40, 3) := by decide +kernel
theorem i_119_254 : kI 119 254 = some (.iload 5, 2) := by decide +kernel
theorem i_119_256 : kI 119 256 = some (.ifCond .eq 26, 3) := by decide +kernel
theorem i_119_259 : kI 119 259 = some (.aload_n 0, 1) := by decide +kernel
theorem i_119_260 : kI 119 260 = some (.iload_n 1, 1) := by decide +kernel
theorem i_119_261 : kI 119 261 = some (.iconst 2, 1) := by decide +kernel
theorem i_119_262 : kI 119 262 = some (.iload 7, 2) := by decide +kernel
theorem i_119_264 : kI 119 264 = some (.iadd, 1) := by decide +kernel
theorem i_119_265 : kI 119 265 = some (.invokevirtual 166, 3) := by decide +kernel
theorem i_119_268 : kI 119 268 = some (.iconst 0, 1) := by decide +kernel
theorem i_119_269 : kI 119 269 = some (.iload_n 3, 1) := by decide +kernel
theorem i_119_270 : kI 119 270 = some (.iconst 1, 1) := by decide +kernel
theorem i_119_271 : kI 119 271 = some (.isub, 1) := by decide +kernel
theorem i_119_272 : kI 119 272 = some (.invokestatic 94, 3) := by decide +kernel
theorem i_119_275 : kI 119 275 = some (.ifCond .eq 7, 3) := by decide +kernel
theorem i_119_278 : kI 119 278 = some (.iconst 1, 1) := by decide +kernel
theorem i_119_279 : kI 119 279 = some (.goto 4, 3) := by decide +kernel
theorem i_119_282 : kI 119 282 = some (.iconst 0, 1) := by decide +kernel
theorem i_119_283 : kI 119 283 = some (.istore 5, 2) := by decide +kernel
theorem i_119_285 : kI 119 285 = some (.iinc 7 1, 3) := by decide +kernel
theorem i_119_288 : kI 119 288 = some (.goto (-41), 3) := by decide +kernel
theorem i_119_291 : kI 119 291 = some (.aload_n 0, 1) := by decide +kernel
theorem i_119_292 : kI 119 292 = some (.getfield 54, 3) := by decide +kernel
theorem i_119_295 : kI 119 295 = some (.iload_n 1, 1) := by decide +kernel
theorem i_119_296 : kI 119 296 = some (.iload 6, 2) := by decide +kernel
theorem i_119_298 : kI 119 298 = some (.iastore, 1) := by decide +kernel
theorem i_119_299 : kI 119 299 = some (.iload 5, 2) := by decide +kernel
theorem i_119_301 : kI 119 301 = some (.ifCond .eq 10, 3) := by decide +kernel
theorem i_119_304 : kI 119 304 = some (.iload 6, 2) := by decide +kernel
theorem i_119_306 : kI 119 306 = some (.bipush 12, 2) := by decide +kernel
theorem i_119_308 : kI 119 308 = some (.if_icmp .le 13, 3) := by decide +kernel
theorem i_119_311 : kI 119 311 = some (.aload_n 0, 1) := by decide +kernel
theorem i_119_312 : kI 119 312 = some (.aload_n 0, 1) := by decide +kernel
theorem i_119_313 : kI 119 313 = some (.getfield 42, 3) := by decide +kernel
theorem i_119_316 : kI 119 316 = some (.iload_n 1, 1) := by decide +kernel
theorem i_119_317 : kI 119 317 = some (.iaload, 1) := by decide +kernel
theorem i_119_318 : kI 119 318 = some (.invokevirtual 139, 3) := by decide +kernel
theorem i_119_321 : kI 119 321 = some (.return_, 1) := by decide +kernel
theorem i_120_0 : kI 120 0 = some (.iconst 0, 1) := by decide +kernel
theorem i_120_1 : kI 120 1 = some (.istore_n 1, 1) := by decide +kernel
theorem i_120_2 : kI 120 2 = some (.iload_n 1, 1) := by decide +kernel
theorem i_120_3 : kI 120 3 = some (.aload_n 0, 1) := by decide +kernel
theorem i_120_4 : kI 120 4 = some (.getfield 130, 3) := by decide +kernel
theorem i_120_7 : kI 120 7 = some (.if_icmp .ge 21, 3) := by decide +kernel
theorem i_120_10 : kI 120 10 = some (.aload_n 0, 1) := by decide +kernel
theorem i_120_11 : kI 120 11 = some (.getfield 35, 3) := by decide +kernel
theorem i_120_14 : kI 120 14 = some (.iload_n 1, 1) := by decide +kernel
theorem i_120_15 : kI 120 15 = some (.aload_n 0, 1) := by decide +kernel
theorem i_120_16 : kI 120 16 = some (.getfield 32, 3) := by decide +kernel
theorem i_120_19 : kI 120 19 = some (.iload_n 1, 1) := by decide +kernel
theorem i_120_20 : kI 120 20 = some (.iaload, 1) := by decide +kernel
theorem i_120_21 : kI 120 21 = some (.iastore, 1) := by decide +kernel
theorem i_120_22 : kI 120 22 = some (.iinc 1 1, 3) := by decide +kernel
theorem i_120_25 : kI 120 25 = some (.goto (-23), 3) := by decide +kernel
theorem i_120_28 : kI 120 28 = some (.aload_n 0, 1) := by decide +kernel
theorem i_120_29 : kI 120 29 = some (.iconst 0, 1) := by decide +kernel
theorem i_120_30 : kI 120 30 = some (.putfield 136, 3) := by decide +kernel
theorem i_120_33 : kI 120 33 = some (.aload_n 0, 1) := by decide +kernel
theorem i_120_34 : kI 120 34 = some (.iconst (-1), 1) := by decide +kernel
theorem i_120_35 : kI 120 35 = some (.putfield 133, 3) := by decide +kernel
theorem i_120_38 : kI 120 38 = some (.aload_n 0, 1) := by decide +kernel
theorem i_120_39 : kI 120 39 = some (.iconst 0, 1) := by decide +kernel
theorem i_120_40 : kI 120 40 = some (.putfield 149, 3) := by decide +kernel
theorem i_120_43 : kI 120 43 = some (.aload_n 0, 1) := by decide +kernel
theorem i_120_44 : kI 120 44 = some (.iconst 0, 1) := by decide +kernel
theorem i_120_45 : kI 120 45 = some (.putfield 106, 3) := by decide +kernel
theorem i_120_48 : kI 120 48 = some (.aload_n 0, 1) := by decide +kernel
theorem i_120_49 : kI 120 49 = some (.iconst 0, 1) := by decide +kernel
theorem i_120_50 : kI 120 50 = some (.putfield 169, 3) := by decide +kernel
theorem i_120_53 : kI 120 53 = some (.aload_n 0, 1) := by decide +kernel
theorem i_120_54 : kI 120 54 = some (.iconst 0, 1) := by decide +kernel
theorem i_120_55 : kI 120 55 = some (.putfield 172, 3) := by decide +kernel
theorem i_120_58 : kI 120 58 = some (.aload_n 0, 1) := by decide +kernel
theorem i_120_59 : kI 120 59 = some (.invokevirtual 175, 3) := by decide +kernel
theorem i_120_62 : kI 120 62 = some (.aload_n 0, 1) := by decide +kernel
theorem i_120_63 : kI 120 63 = some (.getfield 133, 3) := by decide +kernel
theorem i_120_66 : kI 120 66 = some (.ifCond .ge 22, 3) := by decide +kernel
theorem i_120_69 : kI 120 69 = some (.aload_n 0, 1) := by decide +kernel
theorem i_120_70 : kI 120 70 = some (.getfield 136, 3) := by decide +kernel
theorem i_120_73 : kI 120 73 = some (.aload_n 0, 1) := by decide +kernel
theorem i_120_74 : kI 120 74 = some (.getfield 130, 3) := by decide +kernel
theorem i_120_77 : kI 120 77 = some (.if_icmp .ge 11, 3) := by decide +kernel
theorem i_120_80 : kI 120 80 = some (.aload_n 0, 1) := by decide +kernel
theorem i_120_81 : kI 120 81 = some (.aload_n 0, 1) := by decide +kernel
theorem i_120_82 : kI 120 82 = some (.getfield 136, 3) := by decide +kernel
theorem i_120_85 : kI 120 85 = some (.invokevirtual 139, 3) := by decide +kernel
theorem i_120_88 : kI 120 88 = some (.aload_n 0, 1) := by decide +kernel
theorem i_120_89 : kI 120 89 = some (.iconst 0, 1) := by decide +kernel
theorem i_120_90 : kI 120 90 = some (.putfield 130, 3) := by decide +kernel
theorem i_120_93 : kI 120 93 = some (.aload_n 0, 1) := by decide +kernel
theorem i_120_94 : kI 120 94 = some (.aload_n 0, 1) := by decide +kernel
theorem i_120_95 : kI 120 95 = some (.getfield 133, 3) := by decide +kernel
theorem i_120_98 : kI 120 98 = some (.putfield 38, 3) := by decide +kernel
theorem i_120_101 : kI 120 101 = some (.aload_n 0, 1) := by decide +kernel
theorem i_120_102 : kI 120 102 = some (.aload_n 0, 1) := by decide +kernel
theorem i_120_103 : kI 120 103 = some (.getfield 133, 3) := by decide +kernel
theorem i_120_106 : kI 120 106 = some (.ifCond .ge 7, 3) := by decide +kernel
theorem i_120_109 : kI 120 109 = some (.iconst 1, 1) := by decide +kernel
theorem i_120_110 : kI 120 110 = some (.goto 4, 3) := by decide +kernel
theorem i_120_113 : kI 120 113 = some (.iconst 0, 1) := by decide +kernel
theorem i_120_114 : kI 120 114 = some (.invokevirtual 113, 3) := by decide +kernel
theorem i_120_117 : kI 120 117 = some (.ifCond .ne 5, 3) := by decide +kernel
theorem i_120_120 : kI 120 120 = some (.iconst 0, 1) := by decide +kernel
theorem i_120_121 : kI 120 121 = some (.ireturn, 1) := by decide +kernel
theorem i_120_122 : kI 120 122 = some (.aload_n 0, 1) := by decide +kernel
theorem i_120_123 : kI 120 123 = some (.iconst 1, 1) := by decide +kernel
theorem i_120_124 : kI 120 124 = some (.putfield 106, 3) := by decide +kernel
theorem i_120_127 : kI 120 127 = some (.aload_n 0, 1) := by decide +kernel
theorem i_120_128 : kI 120 128 = some (.iconst 0, 1) := by decide +kernel
theorem i_120_129 : kI 120 129 = some (.putfield 178, 3) := by decide +kernel
theorem i_120_132 : kI 120 132 = some (.aload_n 0, 1) := by decide +kernel
theorem i_120_133 : kI 120 133 = some (.iconst 1, 1) := by decide +kernel
theorem i_120_134 : kI 120 134 = some (.putfield 181, 3) := by decide +kernel
theorem i_120_137 : kI 120 137 = some (.aload_n 0, 1) := by decide +kernel
theorem i_120_138 : kI 120 138 = some (.iconst 0, 1) := by decide +kernel
theorem i_120_139 : kI 120 139 = some (.invokevirtual 184, 3) := by decide +kernel
theorem i_120_142 : kI 120 142 = some (.aload_n 0, 1) := by decide +kernel
theorem i_120_143 : kI 120 143 = some (.getfield 54, 3) := by decide +kernel
theorem i_120_146 : kI 120 146 = some (.iconst 0, 1) := by decide +kernel
theorem i_120_147 : kI 120 147 = some (.iaload, 1) := by decide +kernel
theorem i_120_148 : kI 120 148 = some (.ireturn, 1) := by decide +kernel
theorem i_121_0 : kI 121 0 = some (.aload_n 0, 1) := by decide +kernel
theorem i_121_1 : kI 121 1 = some (.iconst 0, 1) := by decide +kernel
theorem i_121_2 : kI 121 2 = some (.putfield 88, 3) := by decide +kernel
theorem i_121_5 : kI 121 5 = some (.aload_n 0, 1) := by decide +kernel
theorem i_121_6 : kI 121 6 = some (.getfield 38, 3) := by decide +kernel
theorem i_121_9 : kI 121 9 = some (.ireturn, 1) := by decide +kernel
theorem i_122_0 : kI 122 0 = some (.iload_n 1, 1) := by decide +kernel
theorem i_122_1 : kI 122 1 = some (.istore_n 2, 1) := by decide +kernel
theorem i_122_2 : kI 122 2 = some (.iload_n 2, 1) := by decide +kernel
theorem i_122_3 : kI 122 3 = some (.aload_n 0, 1) := by decide +kernel
theorem i_122_4 : kI 122 4 = some (.getfield 79, 3) := by decide +kernel
theorem i_122_7 : kI 122 7 = some (.iload_n 1, 1) := by decide +kernel
theorem i_122_8 : kI 122 8 = some (.iaload, 1) := by decide +kernel
theorem i_122_9 : kI 122 9 = some (.if_icmp .gt 30, 3) := by decide +kernel
theorem i_122_12 : kI 122 12 = some (.aload_n 0, 1) := by decide +kernel
theorem i_122_13 : kI 122 13 = some (.getfield 82, 3) := by decide +kernel
theorem i_122_16 : kI 122 16 = some (.iload_n 2, 1) := by decide +kernel
theorem i_122_17 : kI 122 17 = some (.iconst 0, 1) := by decide +kernel
theorem i_122_18 : kI 122 18 = some (.iastore, 1) := by decide +kernel
theorem i_122_19 : kI 122 19 = some (.aload_n 0, 1) := by decide +kernel
theorem i_122_20 : kI 122 20 = some (.getfield 57, 3) := by decide +kernel
theorem i_122_23 : kI 122 23 = some (.iload_n 2, 1) := by decide +kernel
theorem i_122_24 : kI 122 24 = some (.iconst 0, 1) := by decide +kernel
theorem i_122_25 : kI 122 25 = some (.iastore, 1) := by decide +kernel
theorem i_122_26 : kI 122 26 = some (.aload_n 0, 1) := by decide +kernel
theorem i_122_27 : kI 122 27 = some (.getfield 85, 3) := by decide +kernel
theorem i_122_30 : kI 122 30 = some (.iload_n 2, 1) := by decide +kernel
theorem i_122_31 : kI 122 31 = some (.iconst 0, 1) := by decide +kernel
theorem i_122_32 : kI 122 32 = some (.bastore, 1) := by decide +kernel
theorem i_122_33 : kI 122 33 = some (.iinc 2 1, 3) := by decide +kernel
theorem i_122_36 : kI 122 36 = some (.goto (-34), 3) := by decide +kernel
theorem i_122_39 : kI 122 39 = some (.return_, 1) := by decide +kernel
theorem i_123_0 : kI 123 0 = some (.aload_n 0, 1) := by decide +kernel
theorem i_123_1 : kI 123 1 = some (.iload_n 1, 1) := by decide +kernel
theorem i_123_2 : kI 123 2 = some (.putfield 178, 3) := by decide +kernel
theorem i_123_5 : kI 123 5 = some (.aload_n 0, 1) := by decide +kernel
theorem i_123_6 : kI 123 6 = some (.iconst 1, 1) := by decide +kernel
theorem i_123_7 : kI 123 7 = some (.putfield 181, 3) := by decide +kernel
theorem i_123_10 : kI 123 10 = some (.return_, 1) := by decide +kernel
theorem i_124_0 : kI 124 0 = some (.aload_n 0, 1) := by decide +kernel
theorem i_124_1 : kI 124 1 = some (.iload_n 1, 1) := by decide +kernel
theorem i_124_2 : kI 124 2 = some (.putfield 178, 3) := by decide +kernel
theorem i_124_5 : kI 124 5 = some (.aload_n 0, 1) := by decide +kernel
theorem i_124_6 : kI 124 6 = some (.iconst 0, 1) := by decide +kernel
theorem i_124_7 : kI 124 7 = some (.putfield 181, 3) := by decide +kernel
theorem i_124_10 : kI 124 10 = some (.aload_n 0, 1) := by decide +kernel
theorem i_124_11 : kI 124 11 = some (.iload_n 2, 1) := by decide +kernel
theorem i_124_12 : kI 124 12 = some (.putfield 187, 3) := by decide +kernel
theorem i_124_15 : kI 124 15 = some (.return_, 1) := by decide +kernel
theorem i_125_0 : kI 125 0 = some (.aload_n 0, 1) := by decide +kernel
theorem i_125_1 : kI 125 1 = some (.iload_n 1, 1) := by decide +kernel
theorem i_125_2 : kI 125 2 = some (.invokevirtual 155, 3) := by decide +kernel
theorem i_125_5 : kI 125 5 = some (.iconst 1, 1) := by decide +kernel
theorem i_125_6 : kI 125 6 = some (.if_icmp .ne 58, 3) := by decide +kernel
theorem i_125_9 : kI 125 9 = some (.aload_n 0, 1) := by decide +kernel
theorem i_125_10 : kI 125 10 = some (.iload_n 1, 1) := by decide +kernel
theorem i_125_11 : kI 125 11 = some (.iconst 2, 1) := by decide +kernel
theorem i_125_12 : kI 125 12 = some (.invokevirtual 166, 3) := by decide +kernel
theorem i_125_15 : kI 125 15 = some (.ifCond .ne 49, 3) := by decide +kernel
theorem i_125_18 : kI 125 18 = some (.aload_n 0, 1) := by decide +kernel
theorem i_125_19 : kI 125 19 = some (.aload_n 0, 1) := by decide +kernel
theorem i_125_20 : kI 125 20 = some (.getfield 48, 3) := by decide +kernel
theorem i_125_23 : kI 125 23 = some (.iload_n 1, 1) := by decide +kernel
theorem i_125_24 : kI 125 24 = some (.iaload, 1) := by decide +kernel
theorem i_125_25 : kI 125 25 = some (.invokevirtual 155, 3) := by decide +kernel
theorem i_125_28 : kI 125 28 = some (.ifCond .ne 36, 3) := by decide +kernel
theorem i_125_31 : kI 125 31 = some (.aload_n 0, 1) := by decide +kernel
theorem i_125_32 : kI 125 32 = some (.getfield 13, 3) := by decide +kernel
theorem i_125_35 : kI 125 35 = some (.aload_n 0, 1) := by decide +kernel
theorem i_125_36 : kI 125 36 = some (.aload_n 0, 1) := by decide +kernel
theorem i_125_37 : kI 125 37 = some (.getfield 48, 3) := by decide +kernel
theorem i_125_40 : kI 125 40 = some (.iload_n 1, 1) := by decide +kernel
theorem i_125_41 : kI 125 41 = some (.iaload, 1) := by decide +kernel
theorem i_125_42 : kI 125 42 = some (.iconst 1, 1) := by decide +kernel
theorem i_125_43 : kI 125 43 = some (.invokevirtual 166, 3) := by decide +kernel
theorem i_125_46 : kI 125 46 = some (.bipush 6, 2) := by decide +kernel
theorem i_125_48 : kI 125 48 = some (.imul, 1) := by decide +kernel
theorem i_125_49 : kI 125 49 = some (.aload_n 0, 1) := by decide +kernel
theorem i_125_50 : kI 125 50 = some (.iload_n 1, 1) := by decide +kernel
theorem i_125_51 : kI 125 51 = some (.iconst 1, 1) := by decide +kernel
theorem i_125_52 : kI 125 52 = some (.invokevirtual 166, 3) := by decide +kernel
theorem i_125_55 : kI 125 55 = some (.iadd, 1) := by decide +kernel
theorem i_125_56 : kI 125 56 = some (.baload, 1) := by decide +kernel
theorem i_125_57 : kI 125 57 = some (.ifCond .eq 7, 3) := by decide +kernel
theorem i_125_60 : kI 125 60 = some (.iconst 1, 1) := by decide +kernel
theorem i_125_61 : kI 125 61 = some (.goto 4, 3) := by decide +kernel
theorem i_125_64 : kI 125 64 = some (.iconst 0, 1) := by decide +kernel
theorem i_125_65 : kI 125 65 = some (.ireturn, 1) := by decide +kernel
