theorem i_126_0 : kI 126 0 = some (.aload_n 0, 1) := by decide +kernel
theorem i_126_1 : kI 126 1 = some (.iload_n 2, 1) := by decide +kernel
theorem i_126_2 : kI 126 2 = some (.iconst 1, 1) := by decide +kernel
theorem i_126_3 : kI 126 3 = some (.invokevirtual 166, 3) := by decide +kernel
theorem i_126_6 : kI 126 6 = some (.istore 4, 2) := by decide +kernel
theorem i_126_8 : kI 126 8 = some (.aload_n 0, 1) := by decide +kernel
theorem i_126_9 : kI 126 9 = some (.getfield 82, 3) := by decide +kernel
theorem i_126_12 : kI 126 12 = some (.iload_n 1, 1) := by decide +kernel
theorem i_126_13 : kI 126 13 = some (.iaload, 1) := by decide +kernel
theorem i_126_14 : kI 126 14 = some (.aload_n 0, 1) := by decide +kernel
theorem i_126_15 : kI 126 15 = some (.getfield 17, 3) := by decide +kernel
theorem i_126_18 : kI 126 18 = some (.iload 4, 2) := by decide +kernel
theorem i_126_20 : kI 126 20 = some (.iaload, 1) := by decide +kernel
theorem i_126_21 : kI 126 21 = some (.if_icmp .ge 46, 3) := by decide +kernel
theorem i_126_24 : kI 126 24 = some (.iload_n 3, 1) := by decide +kernel
theorem i_126_25 : kI 126 25 = some (.ifCond .lt 42, 3) := by decide +kernel
theorem i_126_28 : kI 126 28 = some (.aload_n 0, 1) := by decide +kernel
theorem i_126_29 : kI 126 29 = some (.getfield 20, 3) := by decide +kernel
theorem i_126_32 : kI 126 32 = some (.iload 4, 2) := by decide +kernel
theorem i_126_34 : kI 126 34 = some (.aload_n 0, 1) := by decide +kernel
theorem i_126_35 : kI 126 35 = some (.getfield 82, 3) := by decide +kernel
theorem i_126_38 : kI 126 38 = some (.iload_n 1, 1) := by decide +kernel
theorem i_126_39 : kI 126 39 = some (.iaload, 1) := by decide +kernel
theorem i_126_40 : kI 126 40 = some (.iload_n 3, 1) := by decide +kernel
theorem i_126_41 : kI 126 41 = some (.invokestatic 120, 3) := by decide +kernel
theorem i_126_44 : kI 126 44 = some (.iaload, 1) := by decide +kernel
theorem i_126_45 : kI 126 45 = some (.aload_n 0, 1) := by decide +kernel
theorem i_126_46 : kI 126 46 = some (.iload_n 1, 1) := by decide +kernel
theorem i_126_47 : kI 126 47 = some (.iconst 3, 1) := by decide +kernel
theorem i_126_48 : kI 126 48 = some (.invokevirtual 166, 3) := by decide +kernel
theorem i_126_51 : kI 126 51 = some (.if_icmp .eq 16, 3) := by decide +kernel
theorem i_126_54 : kI 126 54 = some (.aload_n 0, 1) := by decide +kernel
theorem i_126_55 : kI 126 55 = some (.getfield 82, 3) := by decide +kernel
theorem i_126_58 : kI 126 58 = some (.iload_n 1, 1) := by decide +kernel
theorem i_126_59 : kI 126 59 = some (.dup2, 1) := by decide +kernel
theorem i_126_60 : kI 126 60 = some (.iaload, 1) := by decide +kernel
theorem i_126_61 : kI 126 61 = some (.iconst 1, 1) := by decide +kernel
theorem i_126_62 : kI 126 62 = some (.iadd, 1) := by decide +kernel
theorem i_126_63 : kI 126 63 = some (.iastore, 1) := by decide +kernel
theorem i_126_64 : kI 126 64 = some (.goto (-56), 3) := by decide +kernel
theorem i_126_67 : kI 126 67 = some (.aload_n 0, 1) := by decide +kernel
theorem i_126_68 : kI 126 68 = some (.getfield 82, 3) := by decide +kernel
theorem i_126_71 : kI 126 71 = some (.iload_n 1, 1) := by decide +kernel
theorem i_126_72 : kI 126 72 = some (.iaload, 1) := by decide +kernel
theorem i_126_73 : kI 126 73 = some (.aload_n 0, 1) := by decide +kernel
theorem i_126_74 : kI 126 74 = some (.getfield 17, 3) := by decide +kernel
theorem i_126_77 : kI 126 77 = some (.iload 4, 2) := by decide +kernel
theorem i_126_79 : kI 126 79 = some (.iaload, 1) := by decide +kernel
theorem i_126_80 : kI 126 80 = some (.if_icmp .ne 11, 3) := by decide +kernel
theorem i_126_83 : kI 126 83 = some (.aload_n 0, 1) := by decide +kernel
theorem i_126_84 : kI 126 84 = some (.iload_n 1, 1) := by decide +kernel
theorem i_126_85 : kI 126 85 = some (.iconst 0, 1) := by decide +kernel
theorem i_126_86 : kI 126 86 = some (.invokevirtual 190, 3) := by decide +kernel
theorem i_126_89 : kI 126 89 = some (.iconst 1, 1) := by decide +kernel
theorem i_126_90 : kI 126 90 = some (.ireturn, 1) := by decide +kernel
theorem i_126_91 : kI 126 91 = some (.aload_n 0, 1) := by decide +kernel
theorem i_126_92 : kI 126 92 = some (.getfield 194, 3) := by decide +kernel
theorem i_126_95 : kI 126 95 = some (.ifCond .ne 5, 3) := by decide +kernel
theorem i_126_98 : kI 126 98 = some (.iconst 0, 1) := by decide +kernel
theorem i_126_99 : kI 126 99 = some (.ireturn, 1) := by decide +kernel
theorem i_126_100 : kI 126 100 = some (.aload_n 0, 1) := by decide +kernel
theorem i_126_101 : kI 126 101 = some (.dup, 1) := by decide +kernel
theorem i_126_102 : kI 126 102 = some (.getfield 194, 3) := by decide +kernel
theorem i_126_105 : kI 126 105 = some (.iconst 1, 1) := by decide +kernel
theorem i_126_106 : kI 126 106 = some (.isub, 1) := by decide +kernel
theorem i_126_107 : kI 126 107 = some (.putfield 194, 3) := by decide +kernel
theorem i_126_110 : kI 126 110 = some (.iconst 0, 1) := by decide +kernel
theorem i_126_111 : kI 126 111 = some (.istore 5, 2) := by decide +kernel
theorem i_126_113 : kI 126 113 = some (.iload 5, 2) := by decide +kernel
theorem i_126_115 : kI 126 115 = some (.aload_n 0, 1) := by decide +kernel
theorem i_126_116 : kI 126 116 = some (.getfield 7, 3) := by decide +kernel
theorem i_126_119 : kI 126 119 = some (.iload 4, 2) := by decide +kernel
theorem i_126_121 : kI 126 121 = some (.iaload, 1) := by decide +kernel
theorem i_126_122 : kI 126 122 = some (.if_icmp .ge 39, 3) := by decide +kernel
theorem i_126_125 : kI 126 125 = some (.aload_n 0, 1) := by decide +kernel
theorem i_126_126 : kI 126 126 = some (.getfield 64, 3) := by decide +kernel
theorem i_126_129 : kI 126 129 = some (.iload_n 1, 1) := by decide +kernel
theorem i_126_130 : kI 126 130 = some (.bipush 12, 2) := by decide +kernel
theorem i_126_132 : kI 126 132 = some (.imul, 1) := by decide +kernel
theorem i_126_133 : kI 126 133 = some (.iload 5, 2) := by decide +kernel
theorem i_126_135 : kI 126 135 = some (.iadd, 1) := by decide +kernel
theorem i_126_136 : kI 126 136 = some (.aload_n 0, 1) := by decide +kernel
theorem i_126_137 : kI 126 137 = some (.getfield 20, 3) := by decide +kernel
theorem i_126_140 : kI 126 140 = some (.iload 4, 2) := by decide +kernel
theorem i_126_142 : kI 126 142 = some (.aload_n 0, 1) := by decide +kernel
theorem i_126_143 : kI 126 143 = some (.getfield 82, 3) := by decide +kernel
theorem i_126_146 : kI 126 146 = some (.iload_n 1, 1) := by decide +kernel
theorem i_126_147 : kI 126 147 = some (.iaload, 1) := by decide +kernel
theorem i_126_148 : kI 126 148 = some (.iload 5, 2) := by decide +kernel
theorem i_126_150 : kI 126 150 = some (.invokestatic 120, 3) := by decide +kernel
theorem i_126_153 : kI 126 153 = some (.iaload, 1) := by decide +kernel
theorem i_126_154 : kI 126 154 = some (.iastore, 1) := by decide +kernel
theorem i_126_155 : kI 126 155 = some (.iinc 5 1, 3) := by decide +kernel
theorem i_126_158 : kI 126 158 = some (.goto (-45), 3) := by decide +kernel
theorem i_126_161 : kI 126 161 = some (.aload_n 0, 1) := by decide +kernel
theorem i_126_162 : kI 126 162 = some (.getfield 82, 3) := by decide +kernel
theorem i_126_165 : kI 126 165 = some (.iload_n 1, 1) := by decide +kernel
theorem i_126_166 : kI 126 166 = some (.dup2, 1) := by decide +kernel
theorem i_126_167 : kI 126 167 = some (.iaload, 1) := by decide +kernel
theorem i_126_168 : kI 126 168 = some (.iconst 1, 1) := by decide +kernel
theorem i_126_169 : kI 126 169 = some (.iadd, 1) := by decide +kernel
theorem i_126_170 : kI 126 170 = some (.iastore, 1) := by decide +kernel
theorem i_126_171 : kI 126 171 = some (.aload_n 0, 1) := by decide +kernel
theorem i_126_172 : kI 126 172 = some (.iload_n 1, 1) := by decide +kernel
theorem i_126_173 : kI 126 173 = some (.iconst 1, 1) := by decide +kernel
theorem i_126_174 : kI 126 174 = some (.invokevirtual 190, 3) := by decide +kernel
theorem i_126_177 : kI 126 177 = some (.iconst 1, 1) := by decide +kernel
theorem i_126_178 : kI 126 178 = some (.ireturn, 1) := by decide +kernel
theorem i_127_0 : kI 127 0 = some (.aload_n 0, 1) := by decide +kernel
theorem i_127_1 : kI 127 1 = some (.getfield 82, 3) := by decide +kernel
theorem i_127_4 : kI 127 4 = some (.iload_n 1, 1) := by decide +kernel
theorem i_127_5 : kI 127 5 = some (.iaload, 1) := by decide +kernel
theorem i_127_6 : kI 127 6 = some (.aload_n 0, 1) := by decide +kernel
theorem i_127_7 : kI 127 7 = some (.getfield 57, 3) := by decide +kernel
theorem i_127_10 : kI 127 10 = some (.iload_n 1, 1) := by decide +kernel
theorem i_127_11 : kI 127 11 = some (.iaload, 1) := by decide +kernel
theorem i_127_12 : kI 127 12 = some (.if_icmp .ge 7, 3) := by decide +kernel
theorem i_127_15 : kI 127 15 = some (.iconst 1, 1) := by decide +kernel
theorem i_127_16 : kI 127 16 = some (.goto 4, 3) := by decide +kernel
theorem i_127_19 : kI 127 19 = some (.iconst 0, 1) := by decide +kernel
theorem i_127_20 : kI 127 20 = some (.istore_n 2, 1) := by decide +kernel
theorem i_127_21 : kI 127 21 = some (.iconst 0, 1) := by decide +kernel
theorem i_127_22 : kI 127 22 = some (.istore_n 3, 1) := by decide +kernel
theorem i_127_23 : kI 127 23 = some (.iload_n 3, 1) := by decide +kernel
theorem i_127_24 : kI 127 24 = some (.aload_n 0, 1) := by decide +kernel
theorem i_127_25 : kI 127 25 = some (.getfield 54, 3) := by decide +kernel
theorem i_127_28 : kI 127 28 = some (.iload_n 1, 1) := by decide +kernel
theorem i_127_29 : kI 127 29 = some (.iaload, 1) := by decide +kernel
theorem i_127_30 : kI 127 30 = some (.if_icmp .ge 46, 3) := by decide +kernel
theorem i_127_33 : kI 127 33 = some (.iload_n 2, 1) := by decide +kernel
theorem i_127_34 : kI 127 34 = some (.ifCond .eq 42, 3) := by decide +kernel
theorem i_127_37 : kI 127 37 = some (.aload_n 0, 1) := by decide +kernel
theorem i_127_38 : kI 127 38 = some (.getfield 64, 3) := by decide +kernel
theorem i_127_41 : kI 127 41 = some (.iload_n 1, 1) := by decide +kernel
theorem i_127_42 : kI 127 42 = some (.bipush 12, 2) := by decide +kernel
theorem i_127_44 : kI 127 44 = some (.imul, 1) := by decide +kernel
theorem i_127_45 : kI 127 45 = some (.iload_n 3, 1) := by decide +kernel
theorem i_127_46 : kI 127 46 = some (.iadd, 1) := by decide +kernel
theorem i_127_47 : kI 127 47 = some (.aload_n 0, 1) := by decide +kernel
theorem i_127_48 : kI 127 48 = some (.getfield 61, 3) := by decide +kernel
theorem i_127_51 : kI 127 51 = some (.iload_n 1, 1) := by decide +kernel
theorem i_127_52 : kI 127 52 = some (.sipush 150, 3) := by decide +kernel
theorem i_127_55 : kI 127 55 = some (.imul, 1) := by decide +kernel
theorem i_127_56 : kI 127 56 = some (.aload_n 0, 1) := by decide +kernel
theorem i_127_57 : kI 127 57 = some (.getfield 82, 3) := by decide +kernel
theorem i_127_60 : kI 127 60 = some (.iload_n 1, 1) := by decide +kernel
theorem i_127_61 : kI 127 61 = some (.iaload, 1) := by decide +kernel
theorem i_127_62 : kI 127 62 = some (.iadd, 1) := by decide +kernel
theorem i_127_63 : kI 127 63 = some (.bipush 12, 2) := by decide +kernel
theorem i_127_65 : kI 127 65 = some (.imul, 1) := by decide +kernel
theorem i_127_66 : kI 127 66 = some (.iload_n 3, 1) := by decide +kernel
theorem i_127_67 : kI 127 67 = some (.iadd, 1) := by decide +kernel
theorem i_127_68 : kI 127 68 = some (.iaload, 1) := by decide +kernel
theorem i_127_69 : kI 127 69 = some (.iastore, 1) := by decide +kernel
theorem i_127_70 : kI 127 70 = some (.iinc 3 1, 3) := by decide +kernel
theorem i_127_73 : kI 127 73 = some (.goto (-50), 3) := by decide +kernel
theorem i_127_76 : kI 127 76 = some (.aload_n 0, 1) := by decide +kernel
theorem i_127_77 : kI 127 77 = some (.getfield 82, 3) := by decide +kernel
theorem i_127_80 : kI 127 80 = some (.iload_n 1, 1) := by decide +kernel
theorem i_127_81 : kI 127 81 = some (.dup2, 1) := by decide +kernel
theorem i_127_82 : kI 127 82 = some (.iaload, 1) := by decide +kernel
theorem i_127_83 : kI 127 83 = some (.iconst 1, 1) := by decide +kernel
theorem i_127_84 : kI 127 84 = some (.iadd, 1) := by decide +kernel
theorem i_127_85 : kI 127 85 = some (.iastore, 1) := by decide +kernel
theorem i_127_86 : kI 127 86 = some (.aload_n 0, 1) := by decide +kernel
theorem i_127_87 : kI 127 87 = some (.iload_n 1, 1) := by decide +kernel
theorem i_127_88 : kI 127 88 = some (.iload_n 2, 1) := by decide +kernel
theorem i_127_89 : kI 127 89 = some (.invokevirtual 190, 3) := by decide +kernel
theorem i_127_92 : kI 127 92 = some (.return_, 1) := by decide +kernel
theorem i_128_0 : kI 128 0 = some (.aload_n 0, 1) := by decide +kernel
theorem i_128_1 : kI 128 1 = some (.iload_n 1, 1) := by decide +kernel
theorem i_128_2 : kI 128 2 = some (.invokevirtual 155, 3) := by decide +kernel
theorem i_128_5 : kI 128 5 = some (.istore_n 2, 1) := by decide +kernel
theorem i_128_6 : kI 128 6 = some (.iload_n 2, 1) := by decide +kernel
theorem i_128_7 : kI 128 7 = some (.ifCond .ne 11, 3) := by decide +kernel
theorem i_128_10 : kI 128 10 = some (.aload_n 0, 1) := by decide +kernel
theorem i_128_11 : kI 128 11 = some (.iload_n 1, 1) := by decide +kernel
theorem i_128_12 : kI 128 12 = some (.iload_n 1, 1) := by decide +kernel
theorem i_128_13 : kI 128 13 = some (.iconst (-1), 1) := by decide +kernel
theorem i_128_14 : kI 128 14 = some (.invokevirtual 197, 3) := by decide +kernel
theorem i_128_17 : kI 128 17 = some (.ireturn, 1) := by decide +kernel
theorem i_128_18 : kI 128 18 = some (.aload_n 0, 1) := by decide +kernel
theorem i_128_19 : kI 128 19 = some (.iload_n 1, 1) := by decide +kernel
theorem i_128_20 : kI 128 20 = some (.invokevirtual 200, 3) := by decide +kernel
theorem i_128_23 : kI 128 23 = some (.ifCond .eq 21, 3) := by decide +kernel
theorem i_128_26 : kI 128 26 = some (.aload_n 0, 1) := by decide +kernel
theorem i_128_27 : kI 128 27 = some (.iload_n 1, 1) := by decide +kernel
theorem i_128_28 : kI 128 28 = some (.aload_n 0, 1) := by decide +kernel
theorem i_128_29 : kI 128 29 = some (.getfield 48, 3) := by decide +kernel
theorem i_128_32 : kI 128 32 = some (.iload_n 1, 1) := by decide +kernel
theorem i_128_33 : kI 128 33 = some (.iaload, 1) := by decide +kernel
theorem i_128_34 : kI 128 34 = some (.aload_n 0, 1) := by decide +kernel
theorem i_128_35 : kI 128 35 = some (.iload_n 1, 1) := by decide +kernel
theorem i_128_36 : kI 128 36 = some (.iconst 1, 1) := by decide +kernel
theorem i_128_37 : kI 128 37 = some (.invokevirtual 166, 3) := by decide +kernel
theorem i_128_40 : kI 128 40 = some (.invokevirtual 197, 3) := by decide +kernel
theorem i_128_43 : kI 128 43 = some (.ireturn, 1) := by decide +kernel
theorem i_128_44 : kI 128 44 = some (.iload_n 2, 1) := by decide +kernel
theorem i_128_45 : kI 128 45 = some (.bipush 8, 2) := by decide +kernel
theorem i_128_47 : kI 128 47 = some (.if_icmp .ne 27, 3) := by decide +kernel
theorem i_128_50 : kI 128 50 = some (.aload_n 0, 1) := by decide +kernel
theorem i_128_51 : kI 128 51 = some (.getfield 57, 3) := by decide +kernel
theorem i_128_54 : kI 128 54 = some (.iload_n 1, 1) := by decide +kernel
theorem i_128_55 : kI 128 55 = some (.iaload, 1) := by decide +kernel
theorem i_128_56 : kI 128 56 = some (.aload_n 0, 1) := by decide +kernel
theorem i_128_57 : kI 128 57 = some (.iload_n 1, 1) := by decide +kernel
theorem i_128_58 : kI 128 58 = some (.iconst 1, 1) := by decide +kernel
theorem i_128_59 : kI 128 59 = some (.invokevirtual 166, 3) := by decide +kernel
theorem i_128_62 : kI 128 62 = some (.if_icmp .lt 12, 3) := by decide +kernel
theorem i_128_65 : kI 128 65 = some (.aload_n 0, 1) := by decide +kernel
theorem i_128_66 : kI 128 66 = some (.iload_n 1, 1) := by decide +kernel
theorem i_128_67 : kI 128 67 = some (.iconst 0, 1) := by decide +kernel
theorem i_128_68 : kI 128 68 = some (.invokevirtual 190, 3) := by decide +kernel
theorem i_128_71 : kI 128 71 = some (.goto 104, 3) := by decide +kernel
theorem i_128_74 : kI 128 74 = some (.iload_n 2, 1) := by decide +kernel
theorem i_128_75 : kI 128 75 = some (.bipush 7, 2) := by decide +kernel
theorem i_128_77 : kI 128 77 = some (.if_icmp .eq 15, 3) := by decide +kernel
theorem i_128_80 : kI 128 80 = some (.iload_n 2, 1) := by decide +kernel
theorem i_128_81 : kI 128 81 = some (.bipush 10, 2) := by decide +kernel
theorem i_128_83 : kI 128 83 = some (.if_icmp .eq 9, 3) := by decide +kernel
theorem i_128_86 : kI 128 86 = some (.iload_n 2, 1) := by decide +kernel
theorem i_128_87 : kI 128 87 = some (.bipush 9, 2) := by decide +kernel
theorem i_128_89 : kI 128 89 = some (.if_icmp .ne 48, 3) := by decide +kernel
theorem i_128_92 : kI 128 92 = some (.aload_n 0, 1) := by decide +kernel
theorem i_128_93 : kI 128 93 = some (.getfield 85, 3) := by decide +kernel
theorem i_128_96 : kI 128 96 = some (.iload_n 1, 1) := by decide +kernel
theorem i_128_97 : kI 128 97 = some (.baload, 1) := by decide +kernel
theorem i_128_98 : kI 128 98 = some (.ifCond .ne 16, 3) := by decide +kernel
theorem i_128_101 : kI 128 101 = some (.aload_n 0, 1) := by decide +kernel
theorem i_128_102 : kI 128 102 = some (.aload_n 0, 1) := by decide +kernel
theorem i_128_103 : kI 128 103 = some (.getfield 48, 3) := by decide +kernel
theorem i_128_106 : kI 128 106 = some (.iload_n 1, 1) := by decide +kernel
theorem i_128_107 : kI 128 107 = some (.iaload, 1) := by decide +kernel
theorem i_128_108 : kI 128 108 = some (.invokevirtual 203, 3) := by decide +kernel
theorem i_128_111 : kI 128 111 = some (.goto 64, 3) := by decide +kernel
theorem i_128_114 : kI 128 114 = some (.iload_n 2, 1) := by decide +kernel
theorem i_128_115 : kI 128 115 = some (.bipush 9, 2) := by decide +kernel
theorem i_128_117 : kI 128 117 = some (.if_icmp .eq 11, 3) := by decide +kernel
theorem i_128_120 : kI 128 120 = some (.aload_n 0, 1) := by decide +kernel
theorem i_128_121 : kI 128 121 = some (.iload_n 1, 1) := by decide +kernel
theorem i_128_122 : kI 128 122 = some (.invokevirtual 206, 3) := by decide +kernel
theorem i_128_125 : kI 128 125 = some (.goto 50, 3) := by decide +kernel
theorem i_128_128 : kI 128 128 = some (.aload_n 0, 1) := by decide +kernel
theorem i_128_129 : kI 128 129 = some (.iload_n 1, 1) := by decide +kernel
theorem i_128_130 : kI 128 130 = some (.iconst 0, 1) := by decide +kernel
theorem i_128_131 : kI 128 131 = some (.invokevirtual 190, 3) := by decide +kernel
theorem i_128_134 : kI 128 134 = some (.goto 41, 3) := by decide +kernel
theorem i_128_137 : kI 128 137 = some (.aload_n 0, 1) := by decide +kernel
theorem i_128_138 : kI 128 138 = some (.iload_n 2, 1) := by decide +kernel
theorem i_128_139 : kI 128 139 = some (.iconst 3, 1) := by decide +kernel
theorem i_128_140 : kI 128 140 = some (.if_icmp .lt 26, 3) := by decide +kernel
theorem i_128_143 : kI 128 143 = some (.iload_n 2, 1) := by decide +kernel
theorem i_128_144 : kI 128 144 = some (.iconst 5, 1) := by decide +kernel
theorem i_128_145 : kI 128 145 = some (.if_icmp .gt 21, 3) := by decide +kernel
theorem i_128_148 : kI 128 148 = some (.aload_n 0, 1) := by decide +kernel
theorem i_128_149 : kI 128 149 = some (.getfield 85, 3) := by decide +kernel
theorem i_128_152 : kI 128 152 = some (.iload_n 1, 1) := by decide +kernel
theorem i_128_153 : kI 128 153 = some (.baload, 1) := by decide +kernel
theorem i_128_154 : kI 128 154 = some (.ifCond .eq 12, 3) := by decide +kernel
theorem i_128_157 : kI 128 157 = some (.aload_n 0, 1) := by decide +kernel
theorem i_128_158 : kI 128 158 = some (.getfield 51, 3) := by decide +kernel
theorem i_128_161 : kI 128 161 = some (.iload_n 1, 1) := by decide +kernel
theorem i_128_162 : kI 128 162 = some (.iaload, 1) := by decide +kernel
theorem i_128_163 : kI 128 163 = some (.goto 9, 3) := by decide +kernel
theorem i_128_166 : kI 128 166 = some (.aload_n 0, 1) := by decide +kernel
theorem i_128_167 : kI 128 167 = some (.getfield 48, 3) := by decide +kernel
theorem i_128_170 : kI 128 170 = some (.iload_n 1, 1) := by decide +kernel
theorem i_128_171 : kI 128 171 = some (.iaload, 1) := by decide +kernel
theorem i_128_172 : kI 128 172 = some (.invokevirtual 203, 3) := by decide +kernel
theorem i_128_175 : kI 128 175 = some (.iconst 1, 1) := by decide +kernel
theorem i_128_176 : kI 128 176 = some (.ireturn, 1) := by decide +kernel
theorem i_129_0 : kI 129 0 = some (.aload_n 0, 1) := by decide +kernel
theorem i_129_1 : kI 129 1 = some (.iload_n 1, 1) := by decide +kernel
theorem i_129_2 : kI 129 2 = some (.invokevirtual 155, 3) := by decide +kernel
theorem i_129_5 : kI 129 5 = some (.istore_n 3, 1) := by decide +kernel
theorem i_129_6 : kI 129 6 = some (.iload_n 3, 1) := by decide +kernel
theorem i_129_7 : kI 129 7 = some (.iconst 5, 1) := by decide +kernel
theorem i_129_8 : kI 129 8 = some (.if_icmp .ne 33, 3) := by decide +kernel
theorem i_129_11 : kI 129 11 = some (.iload_n 2, 1) := by decide +kernel
theorem i_129_12 : kI 129 12 = some (.aload_n 0, 1) := by decide +kernel
theorem i_129_13 : kI 129 13 = some (.getfield 48, 3) := by decide +kernel
theorem i_129_16 : kI 129 16 = some (.iload_n 1, 1) := by decide +kernel
theorem i_129_17 : kI 129 17 = some (.iaload, 1) := by decide +kernel
theorem i_129_18 : kI 129 18 = some (.if_icmp .ne 23, 3) := by decide +kernel
theorem i_129_21 : kI 129 21 = some (.aload_n 0, 1) := by decide +kernel
theorem i_129_22 : kI 129 22 = some (.getfield 85, 3) := by decide +kernel
theorem i_129_25 : kI 129 25 = some (.iload_n 1, 1) := by decide +kernel
theorem i_129_26 : kI 129 26 = some (.iconst 1, 1) := by decide +kernel
theorem i_129_27 : kI 129 27 = some (.bastore, 1) := by decide +kernel
theorem i_129_28 : kI 129 28 = some (.aload_n 0, 1) := by decide +kernel
theorem i_129_29 : kI 129 29 = some (.aload_n 0, 1) := by decide +kernel
theorem i_129_30 : kI 129 30 = some (.getfield 51, 3) := by decide +kernel
theorem i_129_33 : kI 129 33 = some (.iload_n 1, 1) := by decide +kernel
theorem i_129_34 : kI 129 34 = some (.iaload, 1) := by decide +kernel
theorem i_129_35 : kI 129 35 = some (.invokevirtual 203, 3) := by decide +kernel
theorem i_129_38 : kI 129 38 = some (.goto 113, 3) := by decide +kernel
theorem i_129_41 : kI 129 41 = some (.iload_n 3, 1) := by decide +kernel
theorem i_129_42 : kI 129 42 = some (.iconst 3, 1) := by decide +kernel
theorem i_129_43 : kI 129 43 = some (.if_icmp .eq 8, 3) := by decide +kernel
theorem i_129_46 : kI 129 46 = some (.iload_n 3, 1) := by decide +kernel
theorem i_129_47 : kI 129 47 = some (.iconst 4, 1) := by decide +kernel
theorem i_129_48 : kI 129 48 = some (.if_icmp .ne 33, 3) := by decide +kernel
theorem i_129_51 : kI 129 51 = some (.iload_n 2, 1) := by decide +kernel
theorem i_129_52 : kI 129 52 = some (.aload_n 0, 1) := by decide +kernel
theorem i_129_53 : kI 129 53 = some (.getfield 51, 3) := by decide +kernel
theorem i_129_56 : kI 129 56 = some (.iload_n 1, 1) := by decide +kernel
theorem i_129_57 : kI 129 57 = some (.iaload, 1) := by decide +kernel
theorem i_129_58 : kI 129 58 = some (.if_icmp .ne 23, 3) := by decide +kernel
theorem i_129_61 : kI 129 61 = some (.aload_n 0, 1) := by decide +kernel
theorem i_129_62 : kI 129 62 = some (.getfield 85, 3) := by decide +kernel
theorem i_129_65 : kI 129 65 = some (.iload_n 1, 1) := by decide +kernel
theorem i_129_66 : kI 129 66 = some (.iconst 0, 1) := by decide +kernel
theorem i_129_67 : kI 129 67 = some (.bastore, 1) := by decide +kernel
theorem i_129_68 : kI 129 68 = some (.aload_n 0, 1) := by decide +kernel
theorem i_129_69 : kI 129 69 = some (.aload_n 0, 1) := by decide +kernel
theorem i_129_70 : kI 129 70 = some (.getfield 48, 3) := by decide +kernel
theorem i_129_73 : kI 129 73 = some (.iload_n 1, 1) := by decide +kernel
theorem i_129_74 : kI 129 74 = some (.iaload, 1) := by decide +kernel
theorem i_129_75 : kI 129 75 = some (.invokevirtual 203, 3) := by decide +kernel
theorem i_129_78 : kI 129 78 = some (.goto 73, 3) := by decide +kernel
theorem i_129_81 : kI 129 81 = some (.iload_n 3, 1) := by decide +kernel
theorem i_129_82 : kI 129 82 = some (.bipush 7, 2) := by decide +kernel
theorem i_129_84 : kI 129 84 = some (.if_icmp .eq 9, 3) := by decide +kernel
theorem i_129_87 : kI 129 87 = some (.iload_n 3, 1) := by decide +kernel
theorem i_129_88 : kI 129 88 = some (.bipush 10, 2) := by decide +kernel
theorem i_129_90 : kI 129 90 = some (.if_icmp .ne 18, 3) := by decide +kernel
theorem i_129_93 : kI 129 93 = some (.aload_n 0, 1) := by decide +kernel
theorem i_129_94 : kI 129 94 = some (.getfield 85, 3) := by decide +kernel
theorem i_129_97 : kI 129 97 = some (.iload_n 1, 1) := by decide +kernel
theorem i_129_98 : kI 129 98 = some (.iconst 1, 1) := by decide +kernel
theorem i_129_99 : kI 129 99 = some (.bastore, 1) := by decide +kernel
theorem i_129_100 : kI 129 100 = some (.aload_n 0, 1) := by decide +kernel
theorem i_129_101 : kI 129 101 = some (.iload_n 1, 1) := by decide +kernel
theorem i_129_102 : kI 129 102 = some (.invokevirtual 206, 3) := by decide +kernel
theorem i_129_105 : kI 129 105 = some (.goto 46, 3) := by decide +kernel
theorem i_129_108 : kI 129 108 = some (.iload_n 3, 1) := by decide +kernel
theorem i_129_109 : kI 129 109 = some (.bipush 9, 2) := by decide +kernel
theorem i_129_111 : kI 129 111 = some (.if_icmp .ne 34, 3) := by decide +kernel
theorem i_129_114 : kI 129 114 = some (.aload_n 0, 1) := by decide +kernel
theorem i_129_115 : kI 129 115 = some (.getfield 85, 3) := by decide +kernel
theorem i_129_118 : kI 129 118 = some (.iload_n 1, 1) := by decide +kernel
theorem i_129_119 : kI 129 119 = some (.iconst 1, 1) := by decide +kernel
theorem i_129_120 : kI 129 120 = some (.bastore, 1) := by decide +kernel
theorem i_129_121 : kI 129 121 = some (.aload_n 0, 1) := by decide +kernel
theorem i_129_122 : kI 129 122 = some (.getfield 64, 3) := by decide +kernel
theorem i_129_125 : kI 129 125 = some (.iload_n 1, 1) := by decide +kernel
theorem i_129_126 : kI 129 126 = some (.bipush 12, 2) := by decide +kernel
theorem i_129_128 : kI 129 128 = some (.imul, 1) := by decide +kernel
theorem i_129_129 : kI 129 129 = some (.aload_n 0, 1) := by decide +kernel
theorem i_129_130 : kI 129 130 = some (.getfield 57, 3) := by decide +kernel
theorem i_129_133 : kI 129 133 = some (.iload_n 1, 1) := by decide +kernel
theorem i_129_134 : kI 129 134 = some (.iaload, 1) := by decide +kernel
theorem i_129_135 : kI 129 135 = some (.iastore, 1) := by decide +kernel
theorem i_129_136 : kI 129 136 = some (.aload_n 0, 1) := by decide +kernel
theorem i_129_137 : kI 129 137 = some (.iload_n 1, 1) := by decide +kernel
theorem i_129_138 : kI 129 138 = some (.iconst 1, 1) := by decide +kernel
theorem i_129_139 : kI 129 139 = some (.invokevirtual 190, 3) := by decide +kernel
theorem i_129_142 : kI 129 142 = some (.goto 9, 3) := by decide +kernel
theorem i_129_145 : kI 129 145 = some (.aload_n 0, 1) := by decide +kernel
theorem i_129_146 : kI 129 146 = some (.iload_n 1, 1) := by decide +kernel
theorem i_129_147 : kI 129 147 = some (.iconst 0, 1) := by decide +kernel
theorem i_129_148 : kI 129 148 = some (.invokevirtual 190, 3) := by decide +kernel
theorem i_129_151 : kI 129 151 = some (.return_, 1) := by decide +kernel
theorem i_130_0 : kI 130 0 = some (.iconst 0, 1) := by decide +kernel
theorem i_130_1 : kI 130 1 = some (.istore_n 3, 1) := by decide +kernel
theorem i_130_2 : kI 130 2 = some (.iload_n 3, 1) := by decide +kernel
theorem i_130_3 : kI 130 3 = some (.aload_n 0, 1) := by decide +kernel
theorem i_130_4 : kI 130 4 = some (.getfield 54, 3) := by decide +kernel
theorem i_130_7 : kI 130 7 = some (.iload_n 1, 1) := by decide +kernel
theorem i_130_8 : kI 130 8 = some (.iaload, 1) := by decide +kernel
theorem i_130_9 : kI 130 9 = some (.if_icmp .ge 31, 3) := by decide +kernel
theorem i_130_12 : kI 130 12 = some (.aload_n 0, 1) := by decide +kernel
theorem i_130_13 : kI 130 13 = some (.getfield 64, 3) := by decide +kernel
theorem i_130_16 : kI 130 16 = some (.iload_n 1, 1) := by decide +kernel
theorem i_130_17 : kI 130 17 = some (.bipush 12, 2) := by decide +kernel
theorem i_130_19 : kI 130 19 = some (.imul, 1) := by decide +kernel
theorem i_130_20 : kI 130 20 = some (.iload_n 3, 1) := by decide +kernel
theorem i_130_21 : kI 130 21 = some (.iadd, 1) := by decide +kernel
theorem i_130_22 : kI 130 22 = some (.aload_n 0, 1) := by decide +kernel
theorem i_130_23 : kI 130 23 = some (.getfield 64, 3) := by decide +kernel
theorem i_130_26 : kI 130 26 = some (.iload_n 2, 1) := by decide +kernel
theorem i_130_27 : kI 130 27 = some (.bipush 12, 2) := by decide +kernel
theorem i_130_29 : kI 130 29 = some (.imul, 1) := by decide +kernel
theorem i_130_30 : kI 130 30 = some (.iload_n 3, 1) := by decide +kernel
theorem i_130_31 : kI 130 31 = some (.iadd, 1) := by decide +kernel
theorem i_130_32 : kI 130 32 = some (.iaload, 1) := by decide +kernel
theorem i_130_33 : kI 130 33 = some (.iastore, 1) := by decide +kernel
theorem i_130_34 : kI 130 34 = some (.iinc 3 1, 3) := by decide +kernel
theorem i_130_37 : kI 130 37 = some (.goto (-35), 3) := by decide +kernel
theorem i_130_40 : kI 130 40 = some (.aload_n 0, 1) := by decide +kernel
theorem i_130_41 : kI 130 41 = some (.iload_n 1, 1) := by decide +kernel
theorem i_130_42 : kI 130 42 = some (.iconst 1, 1) := by decide +kernel
theorem i_130_43 : kI 130 43 = some (.invokevirtual 190, 3) := by decide +kernel
theorem i_130_46 : kI 130 46 = some (.return_, 1) := by decide +kernel
theorem i_131_0 : kI 131 0 = some (.aload_n 0, 1) := by decide +kernel
theorem i_131_1 : kI 131 1 = some (.iload_n 1, 1) := by decide +kernel
theorem i_131_2 : kI 131 2 = some (.invokevirtual 155, 3) := by decide +kernel
theorem i_131_5 : kI 131 5 = some (.tableswitch 199 1 10 #[55, 80, 135, 135, 199, 161, 168, 143, 182, 175], 55) := by decide +kernel
theorem i_131_60 : kI 131 60 = some (.aload_n 0, 1) := by decide +kernel
theorem i_131_61 : kI 131 61 = some (.iload_n 1, 1) := by decide +kernel
theorem i_131_62 : kI 131 62 = some (.iload_n 2, 1) := by decide +kernel
theorem i_131_63 : kI 131 63 = some (.invokevirtual 208, 3) := by decide +kernel
theorem i_131_66 : kI 131 66 = some (.ifCond .eq 12, 3) := by decide +kernel
theorem i_131_69 : kI 131 69 = some (.aload_n 0, 1) := by decide +kernel
theorem i_131_70 : kI 131 70 = some (.iload_n 1, 1) := by decide +kernel
theorem i_131_71 : kI 131 71 = some (.iload_n 2, 1) := by decide +kernel
theorem i_131_72 : kI 131 72 = some (.invokevirtual 211, 3) := by decide +kernel
theorem i_131_75 : kI 131 75 = some (.goto 8, 3) := by decide +kernel
theorem i_131_78 : kI 131 78 = some (.aload_n 0, 1) := by decide +kernel
theorem i_131_79 : kI 131 79 = some (.iload_n 2, 1) := by decide +kernel
theorem i_131_80 : kI 131 80 = some (.invokevirtual 203, 3) := by decide +kernel
theorem i_131_83 : kI 131 83 = some (.iconst 1, 1) := by decide +kernel
theorem i_131_84 : kI 131 84 = some (.ireturn, 1) := by decide +kernel
theorem i_131_85 : kI 131 85 = some (.iconst 0, 1) := by decide +kernel
theorem i_131_86 : kI 131 86 = some (.istore_n 3, 1) := by decide +kernel
theorem i_131_87 : kI 131 87 = some (.iload_n 3, 1) := by decide +kernel
theorem i_131_88 : kI 131 88 = some (.aload_n 0, 1) := by decide +kernel
theorem i_131_89 : kI 131 89 = some (.getfield 54, 3) := by decide +kernel
theorem i_131_92 : kI 131 92 = some (.iload_n 1, 1) := by decide +kernel
theorem i_131_93 : kI 131 93 = some (.iaload, 1) := by decide +kernel
theorem i_131_94 : kI 131 94 = some (.if_icmp .ge 38, 3) := by decide +kernel
theorem i_131_97 : kI 131 97 = some (.aload_n 0, 1) := by decide +kernel
theorem i_131_98 : kI 131 98 = some (.getfield 64, 3) := by decide +kernel
theorem i_131_101 : kI 131 101 = some (.iload_n 1, 1) := by decide +kernel
theorem i_131_102 : kI 131 102 = some (.bipush 12, 2) := by decide +kernel
theorem i_131_104 : kI 131 104 = some (.imul, 1) := by decide +kernel
theorem i_131_105 : kI 131 105 = some (.iload_n 3, 1) := by decide +kernel
theorem i_131_106 : kI 131 106 = some (.iadd, 1) := by decide +kernel
theorem i_131_107 : kI 131 107 = some (.aload_n 0, 1) := by decide +kernel
theorem i_131_108 : kI 131 108 = some (.getfield 64, 3) := by decide +kernel
theorem i_131_111 : kI 131 111 = some (.iload_n 2, 1) := by decide +kernel
theorem i_131_112 : kI 131 112 = some (.bipush 12, 2) := by decide +kernel
theorem i_131_114 : kI 131 114 = some (.imul, 1) := by decide +kernel
theorem i_131_115 : kI 131 115 = some (.aload_n 0, 1) := by decide +kernel
theorem i_131_116 : kI 131 116 = some (.iload_n 1, 1) := by decide +kernel
theorem i_131_117 : kI 131 117 = some (.iconst 2, 1) := by decide +kernel
theorem i_131_118 : kI 131 118 = some (.iload_n 3, 1) := by decide +kernel
theorem i_131_119 : kI 131 119 = some (.iadd, 1) := by decide +kernel
theorem i_131_120 : kI 131 120 = some (.invokevirtual 166, 3) := by decide +kernel
theorem i_131_123 : kI 131 123 = some (.iadd, 1) := by decide +kernel
theorem i_131_124 : kI 131 124 = some (.iaload, 1) := by decide +kernel
theorem i_131_125 : kI 131 125 = some (.iastore, 1) := by decide +kernel
theorem i_131_126 : kI 131 126 = some (.iinc 3 1, 3) := by decide +kernel
theorem i_131_129 : kI 131 129 = some (.goto (-42), 3) := by decide +kernel
theorem i_131_132 : kI 131 132 = some (.aload_n 0, 1) := by decide +kernel
theorem i_131_133 : kI 131 133 = some (.iload_n 1, 1) := by decide +kernel
theorem i_131_134 : kI 131 134 = some (.iconst 1, 1) := by decide +kernel
theorem i_131_135 : kI 131 135 = some (.invokevirtual 190, 3) := by decide +kernel
theorem i_131_138 : kI 131 138 = some (.iconst 1, 1) := by decide +kernel
theorem i_131_139 : kI 131 139 = some (.ireturn, 1) := by decide +kernel
theorem i_131_140 : kI 131 140 = some (.aload_n 0, 1) := by decide +kernel
theorem i_131_141 : kI 131 141 = some (.iload_n 1, 1) := by decide +kernel
theorem i_131_142 : kI 131 142 = some (.iload_n 2, 1) := by decide +kernel
theorem i_131_143 : kI 131 143 = some (.invokevirtual 214, 3) := by decide +kernel
theorem i_131_146 : kI 131 146 = some (.iconst 1, 1) := by decide +kernel
theorem i_131_147 : kI 131 147 = some (.ireturn, 1) := by decide +kernel
theorem i_131_148 : kI 131 148 = some (.aload_n 0, 1) := by decide +kernel
theorem i_131_149 : kI 131 149 = some (.getfield 57, 3) := by decide +kernel
theorem i_131_152 : kI 131 152 = some (.iload_n 1, 1) := by decide +kernel
theorem i_131_153 : kI 131 153 = some (.dup2, 1) := by decide +kernel
theorem i_131_154 : kI 131 154 = some (.iaload, 1) := by decide +kernel
theorem i_131_155 : kI 131 155 = some (.iconst 1, 1) := by decide +kernel
theorem i_131_156 : kI 131 156 = some (.iadd, 1) := by decide +kernel
theorem i_131_157 : kI 131 157 = some (.iastore, 1) := by decide +kernel
theorem i_131_158 : kI 131 158 = some (.aload_n 0, 1) := by decide +kernel
theorem i_131_159 : kI 131 159 = some (.iload_n 1, 1) := by decide +kernel
theorem i_131_160 : kI 131 160 = some (.iload_n 2, 1) := by decide +kernel
theorem i_131_161 : kI 131 161 = some (.invokevirtual 211, 3) := by decide +kernel
theorem i_131_164 : kI 131 164 = some (.iconst 1, 1) := by decide +kernel
theorem i_131_165 : kI 131 165 = some (.ireturn, 1) := by decide +kernel
theorem i_131_166 : kI 131 166 = some (.aload_n 0, 1) := by decide +kernel
theorem i_131_167 : kI 131 167 = some (.iload_n 1, 1) := by decide +kernel
theorem i_131_168 : kI 131 168 = some (.iload_n 2, 1) := by decide +kernel
theorem i_131_169 : kI 131 169 = some (.invokevirtual 217, 3) := by decide +kernel
theorem i_131_172 : kI 131 172 = some (.ireturn, 1) := by decide +kernel
theorem i_131_173 : kI 131 173 = some (.aload_n 0, 1) := by decide +kernel
theorem i_131_174 : kI 131 174 = some (.iload_n 1, 1) := by decide +kernel
theorem i_131_175 : kI 131 175 = some (.iload_n 2, 1) := by decide +kernel
theorem i_131_176 : kI 131 176 = some (.invokevirtual 220, 3) := by decide +kernel
theorem i_131_179 : kI 131 179 = some (.ireturn, 1) := by decide +kernel
theorem i_131_180 : kI 131 180 = some (.aload_n 0, 1) := by decide +kernel
theorem i_131_181 : kI 131 181 = some (.iload_n 1, 1) := by decide +kernel
theorem i_131_182 : kI 131 182 = some (.iload_n 2, 1) := by decide +kernel
theorem i_131_183 : kI 131 183 = some (.invokevirtual 223, 3) := by decide +kernel
theorem i_131_186 : kI 131 186 = some (.ireturn, 1) := by decide +kernel
theorem i_131_187 : kI 131 187 = some (.aload_n 0, 1) := by decide +kernel
theorem i_131_188 : kI 131 188 = some (.getfield 57, 3) := by decide +kernel
theorem i_131_191 : kI 131 191 = some (.iload_n 1, 1) := by decide +kernel
theorem i_131_192 : kI 131 192 = some (.dup2, 1) := by decide +kernel
theorem i_131_193 : kI 131 193 = some (.iaload, 1) := by decide +kernel
theorem i_131_194 : kI 131 194 = some (.iconst 1, 1) := by decide +kernel
theorem i_131_195 : kI 131 195 = some (.iadd, 1) := by decide +kernel
theorem i_131_196 : kI 131 196 = some (.iastore, 1) := by decide +kernel
theorem i_131_197 : kI 131 197 = some (.aload_n 0, 1) := by decide +kernel
theorem i_131_198 : kI 131 198 = some (.iload_n 2, 1) := by decide +kernel
theorem i_131_199 : kI 131 199 = some (.invokevirtual 203, 3) := by decide +kernel
theorem i_131_202 : kI 131 202 = some (.iconst 1, 1) := by decide +kernel
theorem i_131_203 : kI 131 203 = some (.ireturn, 1) := by decide +kernel
theorem i_131_204 : kI 131 204 = some (.aload_n 0, 1) := by decide +kernel
theorem i_131_205 : kI 131 205 = some (.iload_n 1, 1) := by decide +kernel
theorem i_131_206 : kI 131 206 = some (.iload_n 2, 1) := by decide +kernel
theorem i_131_207 : kI 131 207 = some (.invokevirtual 211, 3) := by decide +kernel
theorem i_131_210 : kI 131 210 = some (.iconst 1, 1) := by decide +kernel
theorem i_131_211 : kI 131 211 = some (.ireturn, 1) := by decide +kernel
theorem i_132_0 : kI 132 0 = some (.aload_n 0, 1) := by decide +kernel
theorem i_132_1 : kI 132 1 = some (.getfield 54, 3) := by decide +kernel
theorem i_132_4 : kI 132 4 = some (.aload_n 0, 1) := by decide +kernel
theorem i_132_5 : kI 132 5 = some (.getfield 48, 3) := by decide +kernel
theorem i_132_8 : kI 132 8 = some (.iload_n 1, 1) := by decide +kernel
theorem i_132_9 : kI 132 9 = some (.iaload, 1) := by decide +kernel
theorem i_132_10 : kI 132 10 = some (.iaload, 1) := by decide +kernel
theorem i_132_11 : kI 132 11 = some (.istore_n 3, 1) := by decide +kernel
theorem i_132_12 : kI 132 12 = some (.iload_n 2, 1) := by decide +kernel
theorem i_132_13 : kI 132 13 = some (.aload_n 0, 1) := by decide +kernel
theorem i_132_14 : kI 132 14 = some (.getfield 48, 3) := by decide +kernel
theorem i_132_17 : kI 132 17 = some (.iload_n 1, 1) := by decide +kernel
theorem i_132_18 : kI 132 18 = some (.iaload, 1) := by decide +kernel
theorem i_132_19 : kI 132 19 = some (.if_icmp .ne 72, 3) := by decide +kernel
theorem i_132_22 : kI 132 22 = some (.iconst 0, 1) := by decide +kernel
theorem i_132_23 : kI 132 23 = some (.istore 4, 2) := by decide +kernel
theorem i_132_25 : kI 132 25 = some (.iload 4, 2) := by decide +kernel
theorem i_132_27 : kI 132 27 = some (.iload_n 3, 1) := by decide +kernel
theorem i_132_28 : kI 132 28 = some (.if_icmp .ge 33, 3) := by decide +kernel
theorem i_132_31 : kI 132 31 = some (.aload_n 0, 1) := by decide +kernel
theorem i_132_32 : kI 132 32 = some (.getfield 67, 3) := by decide +kernel
theorem i_132_35 : kI 132 35 = some (.iload_n 1, 1) := by decide +kernel
theorem i_132_36 : kI 132 36 = some (.bipush 12, 2) := by decide +kernel
theorem i_132_38 : kI 132 38 = some (.imul, 1) := by decide +kernel
theorem i_132_39 : kI 132 39 = some (.iload 4, 2) := by decide +kernel
theorem i_132_41 : kI 132 41 = some (.iadd, 1) := by decide +kernel
theorem i_132_42 : kI 132 42 = some (.aload_n 0, 1) := by decide +kernel
theorem i_132_43 : kI 132 43 = some (.getfield 64, 3) := by decide +kernel
theorem i_132_46 : kI 132 46 = some (.iload_n 2, 1) := by decide +kernel
theorem i_132_47 : kI 132 47 = some (.bipush 12, 2) := by decide +kernel
theorem i_132_49 : kI 132 49 = some (.imul, 1) := by decide +kernel
theorem i_132_50 : kI 132 50 = some (.iload 4, 2) := by decide +kernel
theorem i_132_52 : kI 132 52 = some (.iadd, 1) := by decide +kernel
theorem i_132_53 : kI 132 53 = some (.iaload, 1) := by decide +kernel
theorem i_132_54 : kI 132 54 = some (.iastore, 1) := by decide +kernel
theorem i_132_55 : kI 132 55 = some (.iinc 4 1, 3) := by decide +kernel
theorem i_132_58 : kI 132 58 = some (.goto (-33), 3) := by decide +kernel
theorem i_132_61 : kI 132 61 = some (.aload_n 0, 1) := by decide +kernel
theorem i_132_62 : kI 132 62 = some (.getfield 85, 3) := by decide +kernel
theorem i_132_65 : kI 132 65 = some (.iload_n 1, 1) := by decide +kernel
theorem i_132_66 : kI 132 66 = some (.iconst 1, 1) := by decide +kernel
theorem i_132_67 : kI 132 67 = some (.bastore, 1) := by decide +kernel
theorem i_132_68 : kI 132 68 = some (.aload_n 0, 1) := by decide +kernel
theorem i_132_69 : kI 132 69 = some (.aload_n 0, 1) := by decide +kernel
theorem i_132_70 : kI 132 70 = some (.getfield 51, 3) := by decide +kernel
theorem i_132_73 : kI 132 73 = some (.iload_n 1, 1) := by decide +kernel
theorem i_132_74 : kI 132 74 = some (.iaload, 1) := by decide +kernel
theorem i_132_75 : kI 132 75 = some (.invokevirtual 184, 3) := by decide +kernel
theorem i_132_78 : kI 132 78 = some (.aload_n 0, 1) := by decide +kernel
theorem i_132_79 : kI 132 79 = some (.aload_n 0, 1) := by decide +kernel
theorem i_132_80 : kI 132 80 = some (.getfield 51, 3) := by decide +kernel
theorem i_132_83 : kI 132 83 = some (.iload_n 1, 1) := by decide +kernel
theorem i_132_84 : kI 132 84 = some (.iaload, 1) := by decide +kernel
theorem i_132_85 : kI 132 85 = some (.invokevirtual 203, 3) := by decide +kernel
theorem i_132_88 : kI 132 88 = some (.goto 128, 3) := by decide +kernel
theorem i_132_91 : kI 132 91 = some (.aload_n 0, 1) := by decide +kernel
theorem i_132_92 : kI 132 92 = some (.iload_n 1, 1) := by decide +kernel
theorem i_132_93 : kI 132 93 = some (.invokevirtual 155, 3) := by decide +kernel
theorem i_132_96 : kI 132 96 = some (.iconst 4, 1) := by decide +kernel
theorem i_132_97 : kI 132 97 = some (.if_icmp .ne 46, 3) := by decide +kernel
theorem i_132_100 : kI 132 100 = some (.aload_n 0, 1) := by decide +kernel
theorem i_132_101 : kI 132 101 = some (.getfield 67, 3) := by decide +kernel
theorem i_132_104 : kI 132 104 = some (.iload_n 1, 1) := by decide +kernel
theorem i_132_105 : kI 132 105 = some (.bipush 12, 2) := by decide +kernel
theorem i_132_107 : kI 132 107 = some (.imul, 1) := by decide +kernel
theorem i_132_108 : kI 132 108 = some (.aload_n 0, 1) := by decide +kernel
theorem i_132_109 : kI 132 109 = some (.iload_n 1, 1) := by decide +kernel
theorem i_132_110 : kI 132 110 = some (.iconst 1, 1) := by decide +kernel
theorem i_132_111 : kI 132 111 = some (.invokevirtual 166, 3) := by decide +kernel
theorem i_132_114 : kI 132 114 = some (.iadd, 1) := by decide +kernel
theorem i_132_115 : kI 132 115 = some (.iaload, 1) := by decide +kernel
theorem i_132_116 : kI 132 116 = some (.aload_n 0, 1) := by decide +kernel
theorem i_132_117 : kI 132 117 = some (.getfield 64, 3) := by decide +kernel
theorem i_132_120 : kI 132 120 = some (.iload_n 2, 1) := by decide +kernel
theorem i_132_121 : kI 132 121 = some (.bipush 12, 2) := by decide +kernel
theorem i_132_123 : kI 132 123 = some (.imul, 1) := by decide +kernel
theorem i_132_124 : kI 132 124 = some (.aload_n 0, 1) := by decide +kernel
theorem i_132_125 : kI 132 125 = some (.iload_n 1, 1) := by decide +kernel
theorem i_132_126 : kI 132 126 = some (.iconst 2, 1) := by decide +kernel
theorem i_132_127 : kI 132 127 = some (.invokevirtual 166, 3) := by decide +kernel
theorem i_132_130 : kI 132 130 = some (.iadd, 1) := by decide +kernel
theorem i_132_131 : kI 132 131 = some (.iaload, 1) := by decide +kernel
theorem i_132_132 : kI 132 132 = some (.if_icmp .eq 11, 3) := by decide +kernel
theorem i_132_135 : kI 132 135 = some (.aload_n 0, 1) := by decide +kernel
theorem i_132_136 : kI 132 136 = some (.iload_n 2, 1) := by decide +kernel
theorem i_132_137 : kI 132 137 = some (.invokevirtual 203, 3) := by decide +kernel
theorem i_132_140 : kI 132 140 = some (.goto 76, 3) := by decide +kernel
theorem i_132_143 : kI 132 143 = some (.iconst 0, 1) := by decide +kernel
theorem i_132_144 : kI 132 144 = some (.istore 4, 2) := by decide +kernel
theorem i_132_146 : kI 132 146 = some (.iload 4, 2) := by decide +kernel
theorem i_132_148 : kI 132 148 = some (.aload_n 0, 1) := by decide +kernel
theorem i_132_149 : kI 132 149 = some (.getfield 54, 3) := by decide +kernel
theorem i_132_152 : kI 132 152 = some (.iload_n 1, 1) := by decide +kernel
theorem i_132_153 : kI 132 153 = some (.iaload, 1) := by decide +kernel
theorem i_132_154 : kI 132 154 = some (.if_icmp .ge 56, 3) := by decide +kernel
theorem i_132_157 : kI 132 157 = some (.aload_n 0, 1) := by decide +kernel
theorem i_132_158 : kI 132 158 = some (.getfield 64, 3) := by decide +kernel
theorem i_132_161 : kI 132 161 = some (.iload_n 1, 1) := by decide +kernel
theorem i_132_162 : kI 132 162 = some (.bipush 12, 2) := by decide +kernel
theorem i_132_164 : kI 132 164 = some (.imul, 1) := by decide +kernel
theorem i_132_165 : kI 132 165 = some (.iload 4, 2) := by decide +kernel
theorem i_132_167 : kI 132 167 = some (.iadd, 1) := by decide +kernel
theorem i_132_168 : kI 132 168 = some (.iload 4, 2) := by decide +kernel
theorem i_132_170 : kI 132 170 = some (.iload_n 3, 1) := by decide +kernel
theorem i_132_171 : kI 132 171 = some (.if_icmp .ge 18, 3) := by decide +kernel
theorem i_132_174 : kI 132 174 = some (.aload_n 0, 1) := by decide +kernel
theorem i_132_175 : kI 132 175 = some (.getfield 67, 3) := by decide +kernel
theorem i_132_178 : kI 132 178 = some (.iload_n 1, 1) := by decide +kernel
theorem i_132_179 : kI 132 179 = some (.bipush 12, 2) := by decide +kernel
theorem i_132_181 : kI 132 181 = some (.imul, 1) := by decide +kernel
theorem i_132_182 : kI 132 182 = some (.iload 4, 2) := by decide +kernel
theorem i_132_184 : kI 132 184 = some (.iadd, 1) := by decide +kernel
theorem i_132_185 : kI 132 185 = some (.iaload, 1) := by decide +kernel
theorem i_132_186 : kI 132 186 = some (.goto 17, 3) := by decide +kernel
theorem i_132_189 : kI 132 189 = some (.aload_n 0, 1) := by decide +kernel
theorem i_132_190 : kI 132 190 = some (.getfield 64, 3) := by decide +kernel
theorem i_132_193 : kI 132 193 = some (.iload_n 2, 1) := by decide +kernel
theorem i_132_194 : kI 132 194 = some (.bipush 12, 2) := by decide +kernel
theorem i_132_196 : kI 132 196 = some (.imul, 1) := by decide +kernel
theorem i_132_197 : kI 132 197 = some (.iload 4, 2) := by decide +kernel
theorem i_132_199 : kI 132 199 = some (.iadd, 1) := by decide +kernel
theorem i_132_200 : kI 132 200 = some (.iload_n 3, 1) := by decide +kernel
theorem i_132_201 : kI 132 201 = some (.isub, 1) := by decide +kernel
theorem i_132_202 : kI 132 202 = some (.iaload, 1) := by decide +kernel
theorem i_132_203 : kI 132 203 = some (.iastore, 1) := by decide +kernel
theorem i_132_204 : kI 132 204 = some (.iinc 4 1, 3) := by decide +kernel
theorem i_132_207 : kI 132 207 = some (.goto (-61), 3) := by decide +kernel
theorem i_132_210 : kI 132 210 = some (.aload_n 0, 1) := by decide +kernel
theorem i_132_211 : kI 132 211 = some (.iload_n 1, 1) := by decide +kernel
theorem i_132_212 : kI 132 212 = some (.iconst 1, 1) := by decide +kernel
theorem i_132_213 : kI 132 213 = some (.invokevirtual 190, 3) := by decide +kernel
theorem i_132_216 : kI 132 216 = some (.return_, 1) := by decide +kernel
theorem i_133_0 : kI 133 0 = some (.aload_n 0, 1) := by decide +kernel
theorem i_133_1 : kI 133 1 = some (.getfield 64, 3) := by decide +kernel
theorem i_133_4 : kI 133 4 = some (.iload_n 2, 1) := by decide +kernel
theorem i_133_5 : kI 133 5 = some (.bipush 12, 2) := by decide +kernel
theorem i_133_7 : kI 133 7 = some (.imul, 1) := by decide +kernel
theorem i_133_8 : kI 133 8 = some (.aload_n 0, 1) := by decide +kernel
theorem i_133_9 : kI 133 9 = some (.iload_n 1, 1) := by decide +kernel
theorem i_133_10 : kI 133 10 = some (.iconst 1, 1) := by decide +kernel
theorem i_133_11 : kI 133 11 = some (.invokevirtual 166, 3) := by decide +kernel
theorem i_133_14 : kI 133 14 = some (.iadd, 1) := by decide +kernel
theorem i_133_15 : kI 133 15 = some (.iaload, 1) := by decide +kernel
theorem i_133_16 : kI 133 16 = some (.istore_n 3, 1) := by decide +kernel
theorem i_133_17 : kI 133 17 = some (.aload_n 0, 1) := by decide +kernel
theorem i_133_18 : kI 133 18 = some (.iload_n 1, 1) := by decide +kernel
theorem i_133_19 : kI 133 19 = some (.iconst 3, 1) := by decide +kernel
theorem i_133_20 : kI 133 20 = some (.invokevirtual 166, 3) := by decide +kernel
theorem i_133_23 : kI 133 23 = some (.istore 4, 2) := by decide +kernel
theorem i_133_25 : kI 133 25 = some (.aload_n 0, 1) := by decide +kernel
theorem i_133_26 : kI 133 26 = some (.iload_n 1, 1) := by decide +kernel
theorem i_133_27 : kI 133 27 = some (.iconst 2, 1) := by decide +kernel
theorem i_133_28 : kI 133 28 = some (.invokevirtual 166, 3) := by decide +kernel
theorem i_133_31 : kI 133 31 = some (.istore 5, 2) := by decide +kernel
theorem i_133_33 : kI 133 33 = some (.iload 5, 2) := by decide +kernel
theorem i_133_35 : kI 133 35 = some (.ifCond .ne 17, 3) := by decide +kernel
theorem i_133_38 : kI 133 38 = some (.iload_n 3, 1) := by decide +kernel
theorem i_133_39 : kI 133 39 = some (.iload 4, 2) := by decide +kernel
theorem i_133_41 : kI 133 41 = some (.if_icmp .ne 7, 3) := by decide +kernel
theorem i_133_44 : kI 133 44 = some (.iconst 1, 1) := by decide +kernel
theorem i_133_45 : kI 133 45 = some (.goto 98, 3) := by decide +kernel
theorem i_133_48 : kI 133 48 = some (.iconst 0, 1) := by decide +kernel
theorem i_133_49 : kI 133 49 = some (.goto 94, 3) := by decide +kernel
theorem i_133_52 : kI 133 52 = some (.iload 5, 2) := by decide +kernel
theorem i_133_54 : kI 133 54 = some (.iconst 1, 1) := by decide +kernel
theorem i_133_55 : kI 133 55 = some (.if_icmp .ne 17, 3) := by decide +kernel
theorem i_133_58 : kI 133 58 = some (.iload_n 3, 1) := by decide +kernel
theorem i_133_59 : kI 133 59 = some (.iload 4, 2) := by decide +kernel
theorem i_133_61 : kI 133 61 = some (.if_icmp .eq 7, 3) := by decide +kernel
theorem i_133_64 : kI 133 64 = some (.iconst 1, 1) := by decide +kernel
theorem i_133_65 : kI 133 65 = some (.goto 78, 3) := by decide +kernel
theorem i_133_68 : kI 133 68 = some (.iconst 0, 1) := by decide +kernel
theorem i_133_69 : kI 133 69 = some (.goto 74, 3) := by decide +kernel
theorem i_133_72 : kI 133 72 = some (.iload 5, 2) := by decide +kernel
theorem i_133_74 : kI 133 74 = some (.iconst 2, 1) := by decide +kernel
theorem i_133_75 : kI 133 75 = some (.if_icmp .ne 17, 3) := by decide +kernel
theorem i_133_78 : kI 133 78 = some (.iload_n 3, 1) := by decide +kernel
theorem i_133_79 : kI 133 79 = some (.iload 4, 2) := by decide +kernel
theorem i_133_81 : kI 133 81 = some (.if_icmp .ge 7, 3) := by decide +kernel
theorem i_133_84 : kI 133 84 = some (.iconst 1, 1) := by decide +kernel
theorem i_133_85 : kI 133 85 = some (.goto 58, 3) := by decide +kernel
theorem i_133_88 : kI 133 88 = some (.iconst 0, 1) := by decide +kernel
theorem i_133_89 : kI 133 89 = some (.goto 54, 3) := by decide +kernel
theorem i_133_92 : kI 133 92 = some (.iload 5, 2) := by decide +kernel
theorem i_133_94 : kI 133 94 = some (.iconst 3, 1) := by decide +kernel
theorem i_133_95 : kI 133 95 = some (.if_icmp .ne 17, 3) := by decide +kernel
theorem i_133_98 : kI 133 98 = some (.iload_n 3, 1) := by decide +kernel
theorem i_133_99 : kI 133 99 = some (.iload 4, 2) := by decide +kernel
theorem i_133_101 : kI 133 101 = some (.if_icmp .gt 7, 3) := by decide +kernel
theorem i_133_104 : kI 133 104 = some (.iconst 1, 1) := by decide +kernel
theorem i_133_105 : kI 133 105 = some (.goto 38, 3) := by decide +kernel
theorem i_133_108 : kI 133 108 = some (.iconst 0, 1) := by decide +kernel
theorem i_133_109 : kI 133 109 = some (.goto 34, 3) := by decide +kernel
theorem i_133_112 : kI 133 112 = some (.iload 5, 2) := by decide +kernel
theorem i_133_114 : kI 133 114 = some (.iconst 4, 1) := by decide +kernel
theorem i_133_115 : kI 133 115 = some (.if_icmp .ne 17, 3) := by decide +kernel
theorem i_133_118 : kI 133 118 = some (.iload_n 3, 1) := by decide +kernel
theorem i_133_119 : kI 133 119 = some (.iload 4, 2) := by decide +kernel
theorem i_133_121 : kI 133 121 = some (.if_icmp .le 7, 3) := by decide +kernel
theorem i_133_124 : kI 133 124 = some (.iconst 1, 1) := by decide +kernel
theorem i_133_125 : kI 133 125 = some (.goto 18, 3) := by decide +kernel
theorem i_133_128 : kI 133 128 = some (.iconst 0, 1) := by decide +kernel
theorem i_133_129 : kI 133 129 = some (.goto 14, 3) := by decide +kernel
theorem i_133_132 : kI 133 132 = some (.iload_n 3, 1) := by decide +kernel
theorem i_133_133 : kI 133 133 = some (.iload 4, 2) := by decide +kernel
theorem i_133_135 : kI 133 135 = some (.if_icmp .lt 7, 3) := by decide +kernel
theorem i_133_138 : kI 133 138 = some (.iconst 1, 1) := by decide +kernel
theorem i_133_139 : kI 133 139 = some (.goto 4, 3) := by decide +kernel
theorem i_133_142 : kI 133 142 = some (.iconst 0, 1) := by decide +kernel
theorem i_133_143 : kI 133 143 = some (.ireturn, 1) := by decide +kernel
theorem i_134_0 : kI 134 0 = some (.aload_n 0, 1) := by decide +kernel
theorem i_134_1 : kI 134 1 = some (.getfield 57, 3) := by decide +kernel
theorem i_134_4 : kI 134 4 = some (.iload_n 1, 1) := by decide +kernel
theorem i_134_5 : kI 134 5 = some (.iaload, 1) := by decide +kernel
theorem i_134_6 : kI 134 6 = some (.iload_n 2, 1) := by decide +kernel
theorem i_134_7 : kI 134 7 = some (.if_icmp .lt 7, 3) := by decide +kernel
theorem i_134_10 : kI 134 10 = some (.iconst 1, 1) := by decide +kernel
theorem i_134_11 : kI 134 11 = some (.goto 4, 3) := by decide +kernel
theorem i_134_14 : kI 134 14 = some (.iconst 0, 1) := by decide +kernel
theorem i_134_15 : kI 134 15 = some (.ireturn, 1) := by decide +kernel
theorem i_135_0 : kI 135 0 = some (.iconst 0, 1) := by decide +kernel
theorem i_135_1 : kI 135 1 = some (.istore 4, 2) := by decide +kernel
theorem i_135_3 : kI 135 3 = some (.iload 4, 2) := by decide +kernel
theorem i_135_5 : kI 135 5 = some (.aload_n 0, 1) := by decide +kernel
theorem i_135_6 : kI 135 6 = some (.getfield 54, 3) := by decide +kernel
theorem i_135_9 : kI 135 9 = some (.iload_n 3, 1) := by decide +kernel
theorem i_135_10 : kI 135 10 = some (.iaload, 1) := by decide +kernel
theorem i_135_11 : kI 135 11 = some (.if_icmp .ge 44, 3) := by decide +kernel
theorem i_135_14 : kI 135 14 = some (.aload_n 0, 1) := by decide +kernel
theorem i_135_15 : kI 135 15 = some (.getfield 61, 3) := by decide +kernel
theorem i_135_18 : kI 135 18 = some (.iload_n 1, 1) := by decide +kernel
theorem i_135_19 : kI 135 19 = some (.sipush 150, 3) := by decide +kernel
theorem i_135_22 : kI 135 22 = some (.imul, 1) := by decide +kernel
theorem i_135_23 : kI 135 23 = some (.iload_n 2, 1) := by decide +kernel
theorem i_135_24 : kI 135 24 = some (.iadd, 1) := by decide +kernel
theorem i_135_25 : kI 135 25 = some (.bipush 12, 2) := by decide +kernel
theorem i_135_27 : kI 135 27 = some (.imul, 1) := by decide +kernel
theorem i_135_28 : kI 135 28 = some (.iload 4, 2) := by decide +kernel
theorem i_135_30 : kI 135 30 = some (.iadd, 1) := by decide +kernel
theorem i_135_31 : kI 135 31 = some (.iaload, 1) := by decide +kernel
theorem i_135_32 : kI 135 32 = some (.aload_n 0, 1) := by decide +kernel
theorem i_135_33 : kI 135 33 = some (.getfield 64, 3) := by decide +kernel
theorem i_135_36 : kI 135 36 = some (.iload_n 3, 1) := by decide +kernel
theorem i_135_37 : kI 135 37 = some (.bipush 12, 2) := by decide +kernel
theorem i_135_39 : kI 135 39 = some (.imul, 1) := by decide +kernel
theorem i_135_40 : kI 135 40 = some (.iload 4, 2) := by decide +kernel
theorem i_135_42 : kI 135 42 = some (.iadd, 1) := by decide +kernel
theorem i_135_43 : kI 135 43 = some (.iaload, 1) := by decide +kernel
theorem i_135_44 : kI 135 44 = some (.if_icmp .eq 5, 3) := by decide +kernel
theorem i_135_47 : kI 135 47 = some (.iconst 0, 1) := by decide +kernel
theorem i_135_48 : kI 135 48 = some (.ireturn, 1) := by decide +kernel
theorem i_135_49 : kI 135 49 = some (.iinc 4 1, 3) := by decide +kernel
theorem i_135_52 : kI 135 52 = some (.goto (-49), 3) := by decide +kernel
theorem i_135_55 : kI 135 55 = some (.iconst 1, 1) := by decide +kernel
theorem i_135_56 : kI 135 56 = some (.ireturn, 1) := by decide +kernel
theorem i_136_0 : kI 136 0 = some (.iconst 0, 1) := by decide +kernel
theorem i_136_1 : kI 136 1 = some (.istore 4, 2) := by decide +kernel
theorem i_136_3 : kI 136 3 = some (.iload 4, 2) := by decide +kernel
theorem i_136_5 : kI 136 5 = some (.aload_n 0, 1) := by decide +kernel
theorem i_136_6 : kI 136 6 = some (.getfield 54, 3) := by decide +kernel
theorem i_136_9 : kI 136 9 = some (.iload_n 3, 1) := by decide +kernel
theorem i_136_10 : kI 136 10 = some (.iaload, 1) := by decide +kernel
theorem i_136_11 : kI 136 11 = some (.if_icmp .ge 39, 3) := by decide +kernel
theorem i_136_14 : kI 136 14 = some (.aload_n 0, 1) := by decide +kernel
theorem i_136_15 : kI 136 15 = some (.getfield 61, 3) := by decide +kernel
theorem i_136_18 : kI 136 18 = some (.iload_n 1, 1) := by decide +kernel
theorem i_136_19 : kI 136 19 = some (.sipush 150, 3) := by decide +kernel
theorem i_136_22 : kI 136 22 = some (.imul, 1) := by decide +kernel
theorem i_136_23 : kI 136 23 = some (.iload_n 2, 1) := by decide +kernel
theorem i_136_24 : kI 136 24 = some (.iadd, 1) := by decide +kernel
theorem i_136_25 : kI 136 25 = some (.bipush 12, 2) := by decide +kernel
theorem i_136_27 : kI 136 27 = some (.imul, 1) := by decide +kernel
theorem i_136_28 : kI 136 28 = some (.iload 4, 2) := by decide +kernel
theorem i_136_30 : kI 136 30 = some (.iadd, 1) := by decide +kernel
theorem i_136_31 : kI 136 31 = some (.aload_n 0, 1) := by decide +kernel
theorem i_136_32 : kI 136 32 = some (.getfield 64, 3) := by decide +kernel
theorem i_136_35 : kI 136 35 = some (.iload_n 3, 1) := by decide +kernel
theorem i_136_36 : kI 136 36 = some (.bipush 12, 2) := by decide +kernel
theorem i_136_38 : kI 136 38 = some (.imul, 1) := by decide +kernel
theorem i_136_39 : kI 136 39 = some (.iload 4, 2) := by decide +kernel
theorem i_136_41 : kI 136 41 = some (.iadd, 1) := by decide +kernel
theorem i_136_42 : kI 136 42 = some (.iaload, 1) := by decide +kernel
theorem i_136_43 : kI 136 43 = some (.iastore, 1) := by decide +kernel
theorem i_136_44 : kI 136 44 = some (.iinc 4 1, 3) := by decide +kernel
theorem i_136_47 : kI 136 47 = some (.goto (-44), 3) := by decide +kernel
theorem i_136_50 : kI 136 50 = some (.return_, 1) := by decide +kernel
theorem i_137_0 : kI 137 0 = some (.iconst 0, 1) := by decide +kernel
theorem i_137_1 : kI 137 1 = some (.istore_n 3, 1) := by decide +kernel
theorem i_137_2 : kI 137 2 = some (.iconst 0, 1) := by decide +kernel
theorem i_137_3 : kI 137 3 = some (.istore 4, 2) := by decide +kernel
theorem i_137_5 : kI 137 5 = some (.iload 4, 2) := by decide +kernel
theorem i_137_7 : kI 137 7 = some (.aload_n 0, 1) := by decide +kernel
theorem i_137_8 : kI 137 8 = some (.getfield 57, 3) := by decide +kernel
theorem i_137_11 : kI 137 11 = some (.iload_n 1, 1) := by decide +kernel
theorem i_137_12 : kI 137 12 = some (.iaload, 1) := by decide +kernel
theorem i_137_13 : kI 137 13 = some (.if_icmp .ge 30, 3) := by decide +kernel
theorem i_137_16 : kI 137 16 = some (.iload_n 3, 1) := by decide +kernel
theorem i_137_17 : kI 137 17 = some (.ifCond .ne 14, 3) := by decide +kernel
theorem i_137_20 : kI 137 20 = some (.aload_n 0, 1) := by decide +kernel
theorem i_137_21 : kI 137 21 = some (.iload_n 1, 1) := by decide +kernel
theorem i_137_22 : kI 137 22 = some (.iload 4, 2) := by decide +kernel
theorem i_137_24 : kI 137 24 = some (.iload_n 2, 1) := by decide +kernel
theorem i_137_25 : kI 137 25 = some (.invokevirtual 226, 3) := by decide +kernel
theorem i_137_28 : kI 137 28 = some (.ifCond .eq 7, 3) := by decide +kernel
theorem i_137_31 : kI 137 31 = some (.iconst 1, 1) := by decide +kernel
theorem i_137_32 : kI 137 32 = some (.goto 4, 3) := by decide +kernel
theorem i_137_35 : kI 137 35 = some (.iconst 0, 1) := by decide +kernel
theorem i_137_36 : kI 137 36 = some (.istore_n 3, 1) := by decide +kernel
theorem i_137_37 : kI 137 37 = some (.iinc 4 1, 3) := by decide +kernel
theorem i_137_40 : kI 137 40 = some (.goto (-35), 3) := by decide +kernel
theorem i_137_43 : kI 137 43 = some (.iload_n 3, 1) := by decide +kernel
theorem i_137_44 : kI 137 44 = some (.ifCond .eq 10, 3) := by decide +kernel
theorem i_137_47 : kI 137 47 = some (.aload_n 0, 1) := by decide +kernel
theorem i_137_48 : kI 137 48 = some (.iload_n 2, 1) := by decide +kernel
theorem i_137_49 : kI 137 49 = some (.invokevirtual 203, 3) := by decide +kernel
theorem i_137_52 : kI 137 52 = some (.iconst 1, 1) := by decide +kernel
theorem i_137_53 : kI 137 53 = some (.ireturn, 1) := by decide +kernel
theorem i_137_54 : kI 137 54 = some (.aload_n 0, 1) := by decide +kernel
theorem i_137_55 : kI 137 55 = some (.iload_n 1, 1) := by decide +kernel
theorem i_137_56 : kI 137 56 = some (.sipush 150, 3) := by decide +kernel
theorem i_137_59 : kI 137 59 = some (.invokevirtual 229, 3) := by decide +kernel
theorem i_137_62 : kI 137 62 = some (.ifCond .eq 5, 3) := by decide +kernel
theorem i_137_65 : kI 137 65 = some (.iconst 0, 1) := by decide +kernel
theorem i_137_66 : kI 137 66 = some (.ireturn, 1) := by decide +kernel
theorem i_137_67 : kI 137 67 = some (.aload_n 0, 1) := by decide +kernel
theorem i_137_68 : kI 137 68 = some (.iload_n 1, 1) := by decide +kernel
theorem i_137_69 : kI 137 69 = some (.aload_n 0, 1) := by decide +kernel
theorem i_137_70 : kI 137 70 = some (.getfield 57, 3) := by decide +kernel
theorem i_137_73 : kI 137 73 = some (.iload_n 1, 1) := by decide +kernel
theorem i_137_74 : kI 137 74 = some (.iaload, 1) := by decide +kernel
theorem i_137_75 : kI 137 75 = some (.iload_n 2, 1) := by decide +kernel
theorem i_137_76 : kI 137 76 = some (.invokevirtual 232, 3) := by decide +kernel
theorem i_137_79 : kI 137 79 = some (.aload_n 0, 1) := by decide +kernel
theorem i_137_80 : kI 137 80 = some (.getfield 57, 3) := by decide +kernel
theorem i_137_83 : kI 137 83 = some (.iload_n 1, 1) := by decide +kernel
theorem i_137_84 : kI 137 84 = some (.dup2, 1) := by decide +kernel
theorem i_137_85 : kI 137 85 = some (.iaload, 1) := by decide +kernel
theorem i_137_86 : kI 137 86 = some (.iconst 1, 1) := by decide +kernel
theorem i_137_87 : kI 137 87 = some (.iadd, 1) := by decide +kernel
theorem i_137_88 : kI 137 88 = some (.iastore, 1) := by decide +kernel
theorem i_137_89 : kI 137 89 = some (.aload_n 0, 1) := by decide +kernel
theorem i_137_90 : kI 137 90 = some (.iload_n 1, 1) := by decide +kernel
theorem i_137_91 : kI 137 91 = some (.iload_n 2, 1) := by decide +kernel
theorem i_137_92 : kI 137 92 = some (.invokevirtual 211, 3) := by decide +kernel
theorem i_137_95 : kI 137 95 = some (.iconst 1, 1) := by decide +kernel
theorem i_137_96 : kI 137 96 = some (.ireturn, 1) := by decide +kernel
theorem i_138_0 : kI 138 0 = some (.aload_n 0, 1) := by decide +kernel
theorem i_138_1 : kI 138 1 = some (.iload_n 1, 1) := by decide +kernel
theorem i_138_2 : kI 138 2 = some (.sipush 150, 3) := by decide +kernel
theorem i_138_5 : kI 138 5 = some (.invokevirtual 229, 3) := by decide +kernel
theorem i_138_8 : kI 138 8 = some (.ifCond .eq 5, 3) := by decide +kernel
theorem i_138_11 : kI 138 11 = some (.iconst 0, 1) := by decide +kernel
theorem i_138_12 : kI 138 12 = some (.ireturn, 1) := by decide +kernel
theorem i_138_13 : kI 138 13 = some (.aload_n 0, 1) := by decide +kernel
theorem i_138_14 : kI 138 14 = some (.iload_n 1, 1) := by decide +kernel
theorem i_138_15 : kI 138 15 = some (.iconst 1, 1) := by decide +kernel
theorem i_138_16 : kI 138 16 = some (.invokevirtual 166, 3) := by decide +kernel
theorem i_138_19 : kI 138 19 = some (.istore_n 3, 1) := by decide +kernel
theorem i_138_20 : kI 138 20 = some (.aload_n 0, 1) := by decide +kernel
theorem i_138_21 : kI 138 21 = some (.iload_n 1, 1) := by decide +kernel
theorem i_138_22 : kI 138 22 = some (.iconst 2, 1) := by decide +kernel
theorem i_138_23 : kI 138 23 = some (.invokevirtual 166, 3) := by decide +kernel
theorem i_138_26 : kI 138 26 = some (.iconst 1, 1) := by decide +kernel
theorem i_138_27 : kI 138 27 = some (.if_icmp .ne 7, 3) := by decide +kernel
theorem i_138_30 : kI 138 30 = some (.iconst 1, 1) := by decide +kernel
theorem i_138_31 : kI 138 31 = some (.goto 4, 3) := by decide +kernel
theorem i_138_34 : kI 138 34 = some (.iconst 0, 1) := by decide +kernel
theorem i_138_35 : kI 138 35 = some (.istore 4, 2) := by decide +kernel
theorem i_138_37 : kI 138 37 = some (.aload_n 0, 1) := by decide +kernel
theorem i_138_38 : kI 138 38 = some (.getfield 64, 3) := by decide +kernel
theorem i_138_41 : kI 138 41 = some (.iload_n 2, 1) := by decide +kernel
theorem i_138_42 : kI 138 42 = some (.bipush 12, 2) := by decide +kernel
theorem i_138_44 : kI 138 44 = some (.imul, 1) := by decide +kernel
theorem i_138_45 : kI 138 45 = some (.iload_n 3, 1) := by decide +kernel
theorem i_138_46 : kI 138 46 = some (.iadd, 1) := by decide +kernel
theorem i_138_47 : kI 138 47 = some (.iaload, 1) := by decide +kernel
theorem i_138_48 : kI 138 48 = some (.istore 5, 2) := by decide +kernel
theorem i_138_50 : kI 138 50 = some (.aload_n 0, 1) := by decide +kernel
theorem i_138_51 : kI 138 51 = some (.getfield 57, 3) := by decide +kernel
theorem i_138_54 : kI 138 54 = some (.iload_n 1, 1) := by decide +kernel
theorem i_138_55 : kI 138 55 = some (.iaload, 1) := by decide +kernel
theorem i_138_56 : kI 138 56 = some (.istore 6, 2) := by decide +kernel
theorem i_138_58 : kI 138 58 = some (.iconst 1, 1) := by decide +kernel
theorem i_138_59 : kI 138 59 = some (.istore 7, 2) := by decide +kernel
theorem i_138_61 : kI 138 61 = some (.iload 6, 2) := by decide +kernel
theorem i_138_63 : kI 138 63 = some (.ifCond .le 138, 3) := by decide +kernel
theorem i_138_66 : kI 138 66 = some (.iload 7, 2) := by decide +kernel
theorem i_138_68 : kI 138 68 = some (.ifCond .eq 133, 3) := by decide +kernel
theorem i_138_71 : kI 138 71 = some (.aload_n 0, 1) := by decide +kernel
theorem i_138_72 : kI 138 72 = some (.getfield 61, 3) := by decide +kernel
theorem i_138_75 : kI 138 75 = some (.iload_n 1, 1) := by decide +kernel
theorem i_138_76 : kI 138 76 = some (.sipush 150, 3) := by decide +kernel
theorem i_138_79 : kI 138 79 = some (.imul, 1) := by decide +kernel
theorem i_138_80 : kI 138 80 = some (.iload 6, 2) := by decide +kernel
theorem i_138_82 : kI 138 82 = some (.iadd, 1) := by decide +kernel
theorem i_138_83 : kI 138 83 = some (.iconst 1, 1) := by decide +kernel
theorem i_138_84 : kI 138 84 = some (.isub, 1) := by decide +kernel
theorem i_138_85 : kI 138 85 = some (.bipush 12, 2) := by decide +kernel
theorem i_138_87 : kI 138 87 = some (.imul, 1) := by decide +kernel
theorem i_138_88 : kI 138 88 = some (.iload_n 3, 1) := by decide +kernel
theorem i_138_89 : kI 138 89 = some (.iadd, 1) := by decide +kernel
theorem i_138_90 : kI 138 90 = some (.iaload, 1) := by decide +kernel
theorem i_138_91 : kI 138 91 = some (.istore 8, 2) := by decide +kernel
theorem i_138_93 : kI 138 93 = some (.iload 4, 2) := by decide +kernel
theorem i_138_95 : kI 138 95 = some (.ifCond .eq 18, 3) := by decide +kernel
theorem i_138_98 : kI 138 98 = some (.iload 8, 2) := by decide +kernel
theorem i_138_100 : kI 138 100 = some (.iload 5, 2) := by decide +kernel
theorem i_138_102 : kI 138 102 = some (.if_icmp .ge 7, 3) := by decide +kernel
theorem i_138_105 : kI 138 105 = some (.iconst 1, 1) := by decide +kernel
theorem i_138_106 : kI 138 106 = some (.goto 19, 3) := by decide +kernel
theorem i_138_109 : kI 138 109 = some (.iconst 0, 1) := by decide +kernel
theorem i_138_110 : kI 138 110 = some (.goto 15, 3) := by decide +kernel
theorem i_138_113 : kI 138 113 = some (.iload 8, 2) := by decide +kernel
theorem i_138_115 : kI 138 115 = some (.iload 5, 2) := by decide +kernel
theorem i_138_117 : kI 138 117 = some (.if_icmp .le 7, 3) := by decide +kernel
theorem i_138_120 : kI 138 120 = some (.iconst 1, 1) := by decide +kernel
theorem i_138_121 : kI 138 121 = some (.goto 4, 3) := by decide +kernel
theorem i_138_124 : kI 138 124 = some (.iconst 0, 1) := by decide +kernel
theorem i_138_125 : kI 138 125 = some (.istore 7, 2) := by decide +kernel
theorem i_138_127 : kI 138 127 = some (.iload 7, 2) := by decide +kernel
theorem i_138_129 : kI 138 129 = some (.ifCond .ne 6, 3) := by decide +kernel
theorem i_138_132 : kI 138 132 = some (.goto (-71), 3) := by decide +kernel
theorem i_138_135 : kI 138 135 = some (.iconst 0, 1) := by decide +kernel
theorem i_138_136 : kI 138 136 = some (.istore 9, 2) := by decide +kernel
theorem i_138_138 : kI 138 138 = some (.iload 9, 2) := by decide +kernel
theorem i_138_140 : kI 138 140 = some (.aload_n 0, 1) := by decide +kernel
theorem i_138_141 : kI 138 141 = some (.getfield 54, 3) := by decide +kernel
theorem i_138_144 : kI 138 144 = some (.iload_n 2, 1) := by decide +kernel
theorem i_138_145 : kI 138 145 = some (.iaload, 1) := by decide +kernel
theorem i_138_146 : kI 138 146 = some (.if_icmp .ge 49, 3) := by decide +kernel
theorem i_138_149 : kI 138 149 = some (.aload_n 0, 1) := by decide +kernel
theorem i_138_150 : kI 138 150 = some (.getfield 61, 3) := by decide +kernel
theorem i_138_153 : kI 138 153 = some (.iload_n 1, 1) := by decide +kernel
theorem i_138_154 : kI 138 154 = some (.sipush 150, 3) := by decide +kernel
theorem i_138_157 : kI 138 157 = some (.imul, 1) := by decide +kernel
theorem i_138_158 : kI 138 158 = some (.iload 6, 2) := by decide +kernel
theorem i_138_160 : kI 138 160 = some (.iadd, 1) := by decide +kernel
theorem i_138_161 : kI 138 161 = some (.bipush 12, 2) := by decide +kernel
theorem i_138_163 : kI 138 163 = some (.imul, 1) := by decide +kernel
theorem i_138_164 : kI 138 164 = some (.iload 9, 2) := by decide +kernel
theorem i_138_166 : kI 138 166 = some (.iadd, 1) := by decide +kernel
theorem i_138_167 : kI 138 167 = some (.aload_n 0, 1) := by decide +kernel
theorem i_138_168 : kI 138 168 = some (.getfield 61, 3) := by decide +kernel
theorem i_138_171 : kI 138 171 = some (.iload_n 1, 1) := by decide +kernel
theorem i_138_172 : kI 138 172 = some (.sipush 150, 3) := by decide +kernel
theorem i_138_175 : kI 138 175 = some (.imul, 1) := by decide +kernel
theorem i_138_176 : kI 138 176 = some (.iload 6, 2) := by decide +kernel
theorem i_138_178 : kI 138 178 = some (.iadd, 1) := by decide +kernel
theorem i_138_179 : kI 138 179 = some (.iconst 1, 1) := by decide +kernel
theorem i_138_180 : kI 138 180 = some (.isub, 1) := by decide +kernel
theorem i_138_181 : kI 138 181 = some (.bipush 12, 2) := by decide +kernel
theorem i_138_183 : kI 138 183 = some (.imul, 1) := by decide +kernel
theorem i_138_184 : kI 138 184 = some (.iload 9, 2) := by decide +kernel
theorem i_138_186 : kI 138 186 = some (.iadd, 1) := by decide +kernel
theorem i_138_187 : kI 138 187 = some (.iaload, 1) := by decide +kernel
theorem i_138_188 : kI 138 188 = some (.iastore, 1) := by decide +kernel
theorem i_138_189 : kI 138 189 = some (.iinc 9 1, 3) := by decide +kernel
theorem i_138_192 : kI 138 192 = some (.goto (-54), 3) := by decide +kernel
theorem i_138_195 : kI 138 195 = some (.iinc 6 (-1), 3) := by decide +kernel
theorem i_138_198 : kI 138 198 = some (.goto (-137), 3) := by decide +kernel
theorem i_138_201 : kI 138 201 = some (.aload_n 0, 1) := by decide +kernel
theorem i_138_202 : kI 138 202 = some (.iload_n 1, 1) := by decide +kernel
theorem i_138_203 : kI 138 203 = some (.iload 6, 2) := by decide +kernel
theorem i_138_205 : kI 138 205 = some (.iload_n 2, 1) := by decide +kernel
theorem i_138_206 : kI 138 206 = some (.invokevirtual 232, 3) := by decide +kernel
theorem i_138_209 : kI 138 209 = some (.aload_n 0, 1) := by decide +kernel
theorem i_138_210 : kI 138 210 = some (.getfield 57, 3) := by decide +kernel
theorem i_138_213 : kI 138 213 = some (.iload_n 1, 1) := by decide +kernel
theorem i_138_214 : kI 138 214 = some (.dup2, 1) := by decide +kernel
theorem i_138_215 : kI 138 215 = some (.iaload, 1) := by decide +kernel
theorem i_138_216 : kI 138 216 = some (.iconst 1, 1) := by decide +kernel
theorem i_138_217 : kI 138 217 = some (.iadd, 1) := by decide +kernel
theorem i_138_218 : kI 138 218 = some (.iastore, 1) := by decide +kernel
theorem i_138_219 : kI 138 219 = some (.aload_n 0, 1) := by decide +kernel
theorem i_138_220 : kI 138 220 = some (.iload_n 2, 1) := by decide +kernel
theorem i_138_221 : kI 138 221 = some (.invokevirtual 203, 3) := by decide +kernel
theorem i_138_224 : kI 138 224 = some (.iconst 1, 1) := by decide +kernel
theorem i_138_225 : kI 138 225 = some (.ireturn, 1) := by decide +kernel
theorem i_139_0 : kI 139 0 = some (.aload_n 0, 1) := by decide +kernel
theorem i_139_1 : kI 139 1 = some (.getfield 64, 3) := by decide +kernel
theorem i_139_4 : kI 139 4 = some (.iload_n 2, 1) := by decide +kernel
theorem i_139_5 : kI 139 5 = some (.bipush 12, 2) := by decide +kernel
theorem i_139_7 : kI 139 7 = some (.imul, 1) := by decide +kernel
theorem i_139_8 : kI 139 8 = some (.aload_n 0, 1) := by decide +kernel
theorem i_139_9 : kI 139 9 = some (.iload_n 1, 1) := by decide +kernel
theorem i_139_10 : kI 139 10 = some (.iconst 1, 1) := by decide +kernel
theorem i_139_11 : kI 139 11 = some (.invokevirtual 166, 3) := by decide +kernel
theorem i_139_14 : kI 139 14 = some (.iadd, 1) := by decide +kernel
theorem i_139_15 : kI 139 15 = some (.iaload, 1) := by decide +kernel
theorem i_139_16 : kI 139 16 = some (.istore_n 3, 1) := by decide +kernel
theorem i_139_17 : kI 139 17 = some (.aload_n 0, 1) := by decide +kernel
theorem i_139_18 : kI 139 18 = some (.getfield 64, 3) := by decide +kernel
theorem i_139_21 : kI 139 21 = some (.iload_n 2, 1) := by decide +kernel
theorem i_139_22 : kI 139 22 = some (.bipush 12, 2) := by decide +kernel
theorem i_139_24 : kI 139 24 = some (.imul, 1) := by decide +kernel
theorem i_139_25 : kI 139 25 = some (.aload_n 0, 1) := by decide +kernel
theorem i_139_26 : kI 139 26 = some (.iload_n 1, 1) := by decide +kernel
theorem i_139_27 : kI 139 27 = some (.iconst 3, 1) := by decide +kernel
theorem i_139_28 : kI 139 28 = some (.invokevirtual 166, 3) := by decide +kernel
theorem i_139_31 : kI 139 31 = some (.iadd, 1) := by decide +kernel
theorem i_139_32 : kI 139 32 = some (.iaload, 1) := by decide +kernel
theorem i_139_33 : kI 139 33 = some (.istore 4, 2) := by decide +kernel
theorem i_139_35 : kI 139 35 = some (.aload_n 0, 1) := by decide +kernel
theorem i_139_36 : kI 139 36 = some (.iload_n 1, 1) := by decide +kernel
theorem i_139_37 : kI 139 37 = some (.iconst 2, 1) := by decide +kernel
theorem i_139_38 : kI 139 38 = some (.invokevirtual 166, 3) := by decide +kernel
theorem i_139_41 : kI 139 41 = some (.istore 5, 2) := by decide +kernel
theorem i_139_43 : kI 139 43 = some (.iconst 0, 1) := by decide +kernel
theorem i_139_44 : kI 139 44 = some (.istore 6, 2) := by decide +kernel
theorem i_139_46 : kI 139 46 = some (.iload 6, 2) := by decide +kernel
theorem i_139_48 : kI 139 48 = some (.aload_n 0, 1) := by decide +kernel
theorem i_139_49 : kI 139 49 = some (.getfield 57, 3) := by decide +kernel
theorem i_139_52 : kI 139 52 = some (.iload_n 1, 1) := by decide +kernel
theorem i_139_53 : kI 139 53 = some (.iaload, 1) := by decide +kernel
theorem i_139_54 : kI 139 54 = some (.if_icmp .ge 29, 3) := by decide +kernel
theorem i_139_57 : kI 139 57 = some (.aload_n 0, 1) := by decide +kernel
theorem i_139_58 : kI 139 58 = some (.getfield 61, 3) := by decide +kernel
theorem i_139_61 : kI 139 61 = some (.iload_n 1, 1) := by decide +kernel
theorem i_139_62 : kI 139 62 = some (.sipush 150, 3) := by decide +kernel
theorem i_139_65 : kI 139 65 = some (.imul, 1) := by decide +kernel
theorem i_139_66 : kI 139 66 = some (.iload 6, 2) := by decide +kernel
theorem i_139_68 : kI 139 68 = some (.iadd, 1) := by decide +kernel
theorem i_139_69 : kI 139 69 = some (.bipush 12, 2) := by decide +kernel
theorem i_139_71 : kI 139 71 = some (.imul, 1) := by decide +kernel
theorem i_139_72 : kI 139 72 = some (.iaload, 1) := by decide +kernel
theorem i_139_73 : kI 139 73 = some (.iload_n 3, 1) := by decide +kernel
theorem i_139_74 : kI 139 74 = some (.if_icmp .eq 9, 3) := by decide +kernel
theorem i_139_77 : kI 139 77 = some (.iinc 6 1, 3) := by decide +kernel
theorem i_139_80 : kI 139 80 = some (.goto (-34), 3) := by decide +kernel
theorem i_139_83 : kI 139 83 = some (.iload_n 1, 1) := by decide +kernel
theorem i_139_84 : kI 139 84 = some (.sipush 150, 3) := by decide +kernel
theorem i_139_87 : kI 139 87 = some (.imul, 1) := by decide +kernel
theorem i_139_88 : kI 139 88 = some (.iload 6, 2) := by decide +kernel
theorem i_139_90 : kI 139 90 = some (.iadd, 1) := by decide +kernel
theorem i_139_91 : kI 139 91 = some (.bipush 12, 2) := by decide +kernel
theorem i_139_93 : kI 139 93 = some (.imul, 1) := by decide +kernel
theorem i_139_94 : kI 139 94 = some (.istore 7, 2) := by decide +kernel
theorem i_139_96 : kI 139 96 = some (.iload 6, 2) := by decide +kernel
theorem i_139_98 : kI 139 98 = some (.aload_n 0, 1) := by decide +kernel
theorem i_139_99 : kI 139 99 = some (.getfield 57, 3) := by decide +kernel
theorem i_139_102 : kI 139 102 = some (.iload_n 1, 1) := by decide +kernel
theorem i_139_103 : kI 139 103 = some (.iaload, 1) := by decide +kernel
theorem i_139_104 : kI 139 104 = some (.if_icmp .ne 63, 3) := by decide +kernel
theorem i_139_107 : kI 139 107 = some (.aload_n 0, 1) := by decide +kernel
theorem i_139_108 : kI 139 108 = some (.iload_n 1, 1) := by decide +kernel
theorem i_139_109 : kI 139 109 = some (.bipush 60, 2) := by decide +kernel
theorem i_139_111 : kI 139 111 = some (.invokevirtual 229, 3) := by decide +kernel
theorem i_139_114 : kI 139 114 = some (.ifCond .eq 5, 3) := by decide +kernel
theorem i_139_117 : kI 139 117 = some (.iconst 0, 1) := by decide +kernel
theorem i_139_118 : kI 139 118 = some (.ireturn, 1) := by decide +kernel
theorem i_139_119 : kI 139 119 = some (.aload_n 0, 1) := by decide +kernel
theorem i_139_120 : kI 139 120 = some (.getfield 61, 3) := by decide +kernel
theorem i_139_123 : kI 139 123 = some (.iload 7, 2) := by decide +kernel
theorem i_139_125 : kI 139 125 = some (.iload_n 3, 1) := by decide +kernel
theorem i_139_126 : kI 139 126 = some (.iastore, 1) := by decide +kernel
theorem i_139_127 : kI 139 127 = some (.aload_n 0, 1) := by decide +kernel
theorem i_139_128 : kI 139 128 = some (.getfield 61, 3) := by decide +kernel
theorem i_139_131 : kI 139 131 = some (.iload 7, 2) := by decide +kernel
theorem i_139_133 : kI 139 133 = some (.iconst 1, 1) := by decide +kernel
theorem i_139_134 : kI 139 134 = some (.iadd, 1) := by decide +kernel
theorem i_139_135 : kI 139 135 = some (.iload 5, 2) := by decide +kernel
theorem i_139_137 : kI 139 137 = some (.ifCond .ne 7, 3) := by decide +kernel
theorem i_139_140 : kI 139 140 = some (.iconst 0, 1) := by decide +kernel
theorem i_139_141 : kI 139 141 = some (.goto 15, 3) := by decide +kernel
theorem i_139_144 : kI 139 144 = some (.iload 5, 2) := by decide +kernel
theorem i_139_146 : kI 139 146 = some (.iconst 1, 1) := by decide +kernel
theorem i_139_147 : kI 139 147 = some (.if_icmp .ne 7, 3) := by decide +kernel
theorem i_139_150 : kI 139 150 = some (.iconst 0, 1) := by decide +kernel
theorem i_139_151 : kI 139 151 = some (.goto 5, 3) := by decide +kernel
theorem i_139_154 : kI 139 154 = some (.iload 4, 2) := by decide +kernel
theorem i_139_156 : kI 139 156 = some (.iastore, 1) := by decide +kernel
theorem i_139_157 : kI 139 157 = some (.aload_n 0, 1) := by decide +kernel
theorem i_139_158 : kI 139 158 = some (.getfield 57, 3) := by decide +kernel
theorem i_139_161 : kI 139 161 = some (.iload_n 1, 1) := by decide +kernel
theorem i_139_162 : kI 139 162 = some (.dup2, 1) := by decide +kernel
theorem i_139_163 : kI 139 163 = some (.iaload, 1) := by decide +kernel
theorem i_139_164 : kI 139 164 = some (.iconst 1, 1) := by decide +kernel
theorem i_139_165 : kI 139 165 = some (.iadd, 1) := by decide +kernel
theorem i_139_166 : kI 139 166 = some (.iastore, 1) := by decide +kernel
theorem i_139_167 : kI 139 167 = some (.iload 5, 2) := by decide +kernel
theorem i_139_169 : kI 139 169 = some (.ifCond .ne 16, 3) := by decide +kernel
theorem i_139_172 : kI 139 172 = some (.aload_n 0, 1) := by decide +kernel
theorem i_139_173 : kI 139 173 = some (.getfield 61, 3) := by decide +kernel
theorem i_139_176 : kI 139 176 = some (.iload 7, 2) := by decide +kernel
theorem i_139_178 : kI 139 178 = some (.iconst 1, 1) := by decide +kernel
theorem i_139_179 : kI 139 179 = some (.iadd, 1) := by decide +kernel
theorem i_139_180 : kI 139 180 = some (.dup2, 1) := by decide +kernel
theorem i_139_181 : kI 139 181 = some (.iaload, 1) := by decide +kernel
theorem i_139_182 : kI 139 182 = some (.iconst 1, 1) := by decide +kernel
theorem i_139_183 : kI 139 183 = some (.iadd, 1) := by decide +kernel
theorem i_139_184 : kI 139 184 = some (.iastore, 1) := by decide +kernel
theorem i_139_185 : kI 139 185 = some (.iload 5, 2) := by decide +kernel
theorem i_139_187 : kI 139 187 = some (.iconst 1, 1) := by decide +kernel
theorem i_139_188 : kI 139 188 = some (.if_icmp .ne 24, 3) := by decide +kernel
theorem i_139_191 : kI 139 191 = some (.aload_n 0, 1) := by decide +kernel
theorem i_139_192 : kI 139 192 = some (.getfield 61, 3) := by decide +kernel
theorem i_139_195 : kI 139 195 = some (.iload 7, 2) := by decide +kernel
theorem i_139_197 : kI 139 197 = some (.iconst 1, 1) := by decide +kernel
theorem i_139_198 : kI 139 198 = some (.iadd, 1) := by decide +kernel
theorem i_139_199 : kI 139 199 = some (.aload_n 0, 1) := by decide +kernel
theorem i_139_200 : kI 139 200 = some (.getfield 61, 3) := by decide +kernel
theorem i_139_203 : kI 139 203 = some (.iload 7, 2) := by decide +kernel
theorem i_139_205 : kI 139 205 = some (.iconst 1, 1) := by decide +kernel
theorem i_139_206 : kI 139 206 = some (.iadd, 1) := by decide +kernel
theorem i_139_207 : kI 139 207 = some (.iaload, 1) := by decide +kernel
theorem i_139_208 : kI 139 208 = some (.iload 4, 2) := by decide +kernel
theorem i_139_210 : kI 139 210 = some (.iadd, 1) := by decide +kernel
theorem i_139_211 : kI 139 211 = some (.iastore, 1) := by decide +kernel
theorem i_139_212 : kI 139 212 = some (.iload 5, 2) := by decide +kernel
theorem i_139_214 : kI 139 214 = some (.iconst 2, 1) := by decide +kernel
theorem i_139_215 : kI 139 215 = some (.if_icmp .ne 17, 3) := by decide +kernel
theorem i_139_218 : kI 139 218 = some (.iload 4, 2) := by decide +kernel
theorem i_139_220 : kI 139 220 = some (.aload_n 0, 1) := by decide +kernel
theorem i_139_221 : kI 139 221 = some (.getfield 61, 3) := by decide +kernel
theorem i_139_224 : kI 139 224 = some (.iload 7, 2) := by decide +kernel
theorem i_139_226 : kI 139 226 = some (.iconst 1, 1) := by decide +kernel
theorem i_139_227 : kI 139 227 = some (.iadd, 1) := by decide +kernel
theorem i_139_228 : kI 139 228 = some (.iaload, 1) := by decide +kernel
theorem i_139_229 : kI 139 229 = some (.if_icmp .lt 23, 3) := by decide +kernel
theorem i_139_232 : kI 139 232 = some (.iload 5, 2) := by decide +kernel
theorem i_139_234 : kI 139 234 = some (.iconst 3, 1) := by decide +kernel
theorem i_139_235 : kI 139 235 = some (.if_icmp .ne 28, 3) := by decide +kernel
theorem i_139_238 : kI 139 238 = some (.iload 4, 2) := by decide +kernel
theorem i_139_240 : kI 139 240 = some (.aload_n 0, 1) := by decide +kernel
theorem i_139_241 : kI 139 241 = some (.getfield 61, 3) := by decide +kernel
theorem i_139_244 : kI 139 244 = some (.iload 7, 2) := by decide +kernel
theorem i_139_246 : kI 139 246 = some (.iconst 1, 1) := by decide +kernel
theorem i_139_247 : kI 139 247 = some (.iadd, 1) := by decide +kernel
theorem i_139_248 : kI 139 248 = some (.iaload, 1) := by decide +kernel
theorem i_139_249 : kI 139 249 = some (.if_icmp .le 14, 3) := by decide +kernel
theorem i_139_252 : kI 139 252 = some (.aload_n 0, 1) := by decide +kernel
theorem i_139_253 : kI 139 253 = some (.getfield 61, 3) := by decide +kernel
theorem i_139_256 : kI 139 256 = some (.iload 7, 2) := by decide +kernel
theorem i_139_258 : kI 139 258 = some (.iconst 1, 1) := by decide +kernel
theorem i_139_259 : kI 139 259 = some (.iadd, 1) := by decide +kernel
theorem i_139_260 : kI 139 260 = some (.iload 4, 2) := by decide +kernel
theorem i_139_262 : kI 139 262 = some (.iastore, 1) := by decide +kernel
theorem i_139_263 : kI 139 263 = some (.aload_n 0, 1) := by decide +kernel
theorem i_139_264 : kI 139 264 = some (.iload_n 2, 1) := by decide +kernel
theorem i_139_265 : kI 139 265 = some (.invokevirtual 203, 3) := by decide +kernel
theorem i_139_268 : kI 139 268 = some (.iconst 1, 1) := by decide +kernel
theorem i_139_269 : kI 139 269 = some (.ireturn, 1) := by decide +kernel
theorem i_140_0 : kI 140 0 = some (.aload_n 0, 1) := by decide +kernel
theorem i_140_1 : kI 140 1 = some (.iload_n 1, 1) := by decide +kernel
theorem i_140_2 : kI 140 2 = some (.iconst 1, 1) := by decide +kernel
theorem i_140_3 : kI 140 3 = some (.sipush 500, 3) := by decide +kernel
theorem i_140_6 : kI 140 6 = some (.invokestatic 94, 3) := by decide +kernel
theorem i_140_9 : kI 140 9 = some (.ifCond .ne 7, 3) := by decide +kernel
theorem i_140_12 : kI 140 12 = some (.iconst 1, 1) := by decide +kernel
theorem i_140_13 : kI 140 13 = some (.goto 15, 3) := by decide +kernel
theorem i_140_16 : kI 140 16 = some (.aload_n 0, 1) := by decide +kernel
theorem i_140_17 : kI 140 17 = some (.getfield 106, 3) := by decide +kernel
theorem i_140_20 : kI 140 20 = some (.ifCond .eq 7, 3) := by decide +kernel
theorem i_140_23 : kI 140 23 = some (.iconst 0, 1) := by decide +kernel
theorem i_140_24 : kI 140 24 = some (.goto 4, 3) := by decide +kernel
theorem i_140_27 : kI 140 27 = some (.iconst 2, 1) := by decide +kernel
theorem i_140_28 : kI 140 28 = some (.putfield 88, 3) := by decide +kernel
theorem i_140_31 : kI 140 31 = some (.aload_n 0, 1) := by decide +kernel
theorem i_140_32 : kI 140 32 = some (.getfield 88, 3) := by decide +kernel
theorem i_140_35 : kI 140 35 = some (.ifCond .le 5, 3) := by decide +kernel
theorem i_140_38 : kI 140 38 = some (.iconst 0, 1) := by decide +kernel
theorem i_140_39 : kI 140 39 = some (.ireturn, 1) := by decide +kernel
theorem i_140_40 : kI 140 40 = some (.aload_n 0, 1) := by decide +kernel
theorem i_140_41 : kI 140 41 = some (.iload_n 1, 1) := by decide +kernel
theorem i_140_42 : kI 140 42 = some (.putfield 194, 3) := by decide +kernel
theorem i_140_45 : kI 140 45 = some (.aload_n 0, 1) := by decide +kernel
theorem i_140_46 : kI 140 46 = some (.getfield 181, 3) := by decide +kernel
theorem i_140_49 : kI 140 49 = some (.ifCond .ne 8, 3) := by decide +kernel
theorem i_140_52 : kI 140 52 = some (.aload_n 0, 1) := by decide +kernel
theorem i_140_53 : kI 140 53 = some (.iconst 0, 1) := by decide +kernel
theorem i_140_54 : kI 140 54 = some (.invokevirtual 203, 3) := by decide +kernel
theorem i_140_57 : kI 140 57 = some (.iconst (-1), 1) := by decide +kernel
theorem i_140_58 : kI 140 58 = some (.istore_n 2, 1) := by decide +kernel
theorem i_140_59 : kI 140 59 = some (.iload_n 2, 1) := by decide +kernel
theorem i_140_60 : kI 140 60 = some (.ifCond .ge 101, 3) := by decide +kernel
theorem i_140_63 : kI 140 63 = some (.aload_n 0, 1) := by decide +kernel
theorem i_140_64 : kI 140 64 = some (.getfield 181, 3) := by decide +kernel
theorem i_140_67 : kI 140 67 = some (.ifCond .eq 19, 3) := by decide +kernel
theorem i_140_70 : kI 140 70 = some (.aload_n 0, 1) := by decide +kernel
theorem i_140_71 : kI 140 71 = some (.aload_n 0, 1) := by decide +kernel
theorem i_140_72 : kI 140 72 = some (.getfield 178, 3) := by decide +kernel
theorem i_140_75 : kI 140 75 = some (.invokevirtual 236, 3) := by decide +kernel
theorem i_140_78 : kI 140 78 = some (.ifCond .ne (-19), 3) := by decide +kernel
theorem i_140_81 : kI 140 81 = some (.iconst 2, 1) := by decide +kernel
theorem i_140_82 : kI 140 82 = some (.istore_n 2, 1) := by decide +kernel
theorem i_140_83 : kI 140 83 = some (.goto (-24), 3) := by decide +kernel
theorem i_140_86 : kI 140 86 = some (.aload_n 0, 1) := by decide +kernel
theorem i_140_87 : kI 140 87 = some (.getfield 178, 3) := by decide +kernel
theorem i_140_90 : kI 140 90 = some (.ifCond .ne 19, 3) := by decide +kernel
theorem i_140_93 : kI 140 93 = some (.aload_n 0, 1) := by decide +kernel
theorem i_140_94 : kI 140 94 = some (.getfield 187, 3) := by decide +kernel
theorem i_140_97 : kI 140 97 = some (.ifCond .eq 7, 3) := by decide +kernel
theorem i_140_100 : kI 140 100 = some (.iconst 1, 1) := by decide +kernel
theorem i_140_101 : kI 140 101 = some (.goto 4, 3) := by decide +kernel
theorem i_140_104 : kI 140 104 = some (.iconst 0, 1) := by decide +kernel
theorem i_140_105 : kI 140 105 = some (.istore_n 2, 1) := by decide +kernel
theorem i_140_106 : kI 140 106 = some (.goto (-47), 3) := by decide +kernel
theorem i_140_109 : kI 140 109 = some (.aload_n 0, 1) := by decide +kernel
theorem i_140_110 : kI 140 110 = some (.getfield 187, 3) := by decide +kernel
theorem i_140_113 : kI 140 113 = some (.ifCond .ne 23, 3) := by decide +kernel
theorem i_140_116 : kI 140 116 = some (.aload_n 0, 1) := by decide +kernel
theorem i_140_117 : kI 140 117 = some (.aload_n 0, 1) := by decide +kernel
theorem i_140_118 : kI 140 118 = some (.getfield 45, 3) := by decide +kernel
theorem i_140_121 : kI 140 121 = some (.aload_n 0, 1) := by decide +kernel
theorem i_140_122 : kI 140 122 = some (.getfield 178, 3) := by decide +kernel
theorem i_140_125 : kI 140 125 = some (.iaload, 1) := by decide +kernel
theorem i_140_126 : kI 140 126 = some (.aload_n 0, 1) := by decide +kernel
theorem i_140_127 : kI 140 127 = some (.getfield 178, 3) := by decide +kernel
theorem i_140_130 : kI 140 130 = some (.invokevirtual 239, 3) := by decide +kernel
theorem i_140_133 : kI 140 133 = some (.goto (-74), 3) := by decide +kernel
theorem i_140_136 : kI 140 136 = some (.aload_n 0, 1) := by decide +kernel
theorem i_140_137 : kI 140 137 = some (.aload_n 0, 1) := by decide +kernel
theorem i_140_138 : kI 140 138 = some (.getfield 45, 3) := by decide +kernel
theorem i_140_141 : kI 140 141 = some (.aload_n 0, 1) := by decide +kernel
theorem i_140_142 : kI 140 142 = some (.getfield 178, 3) := by decide +kernel
theorem i_140_145 : kI 140 145 = some (.iaload, 1) := by decide +kernel
theorem i_140_146 : kI 140 146 = some (.aload_n 0, 1) := by decide +kernel
theorem i_140_147 : kI 140 147 = some (.getfield 178, 3) := by decide +kernel
theorem i_140_150 : kI 140 150 = some (.invokevirtual 242, 3) := by decide +kernel
theorem i_140_153 : kI 140 153 = some (.ifCond .ne (-94), 3) := by decide +kernel
theorem i_140_156 : kI 140 156 = some (.iconst 3, 1) := by decide +kernel
theorem i_140_157 : kI 140 157 = some (.istore_n 2, 1) := by decide +kernel
theorem i_140_158 : kI 140 158 = some (.goto (-99), 3) := by decide +kernel
theorem i_140_161 : kI 140 161 = some (.aload_n 0, 1) := by decide +kernel
theorem i_140_162 : kI 140 162 = some (.aload_n 0, 1) := by decide +kernel
theorem i_140_163 : kI 140 163 = some (.getfield 169, 3) := by decide +kernel
theorem i_140_166 : kI 140 166 = some (.iload_n 1, 1) := by decide +kernel
theorem i_140_167 : kI 140 167 = some (.iadd, 1) := by decide +kernel
theorem i_140_168 : kI 140 168 = some (.aload_n 0, 1) := by decide +kernel
theorem i_140_169 : kI 140 169 = some (.getfield 194, 3) := by decide +kernel
theorem i_140_172 : kI 140 172 = some (.isub, 1) := by decide +kernel
theorem i_140_173 : kI 140 173 = some (.putfield 169, 3) := by decide +kernel
theorem i_140_176 : kI 140 176 = some (.iload_n 2, 1) := by decide +kernel
theorem i_140_177 : kI 140 177 = some (.ifCond .eq 8, 3) := by decide +kernel
theorem i_140_180 : kI 140 180 = some (.iload_n 2, 1) := by decide +kernel
theorem i_140_181 : kI 140 181 = some (.iconst 3, 1) := by decide +kernel
theorem i_140_182 : kI 140 182 = some (.if_icmp .ne 8, 3) := by decide +kernel
theorem i_140_185 : kI 140 185 = some (.aload_n 0, 1) := by decide +kernel
theorem i_140_186 : kI 140 186 = some (.iconst 0, 1) := by decide +kernel
theorem i_140_187 : kI 140 187 = some (.putfield 106, 3) := by decide +kernel
theorem i_140_190 : kI 140 190 = some (.iload_n 2, 1) := by decide +kernel
theorem i_140_191 : kI 140 191 = some (.iconst 1, 1) := by decide +kernel
theorem i_140_192 : kI 140 192 = some (.if_icmp .eq 5, 3) := by decide +kernel
theorem i_140_195 : kI 140 195 = some (.iload_n 2, 1) := by decide +kernel
theorem i_140_196 : kI 140 196 = some (.ireturn, 1) := by decide +kernel
theorem i_140_197 : kI 140 197 = some (.aload_n 0, 1) := by decide +kernel
theorem i_140_198 : kI 140 198 = some (.aload_n 0, 1) := by decide +kernel
theorem i_140_199 : kI 140 199 = some (.getfield 54, 3) := by decide +kernel
theorem i_140_202 : kI 140 202 = some (.iconst 0, 1) := by decide +kernel
theorem i_140_203 : kI 140 203 = some (.iaload, 1) := by decide +kernel
theorem i_140_204 : kI 140 204 = some (.putfield 172, 3) := by decide +kernel
theorem i_140_207 : kI 140 207 = some (.iconst 0, 1) := by decide +kernel
theorem i_140_208 : kI 140 208 = some (.istore_n 3, 1) := by decide +kernel
theorem i_140_209 : kI 140 209 = some (.iload_n 3, 1) := by decide +kernel
theorem i_140_210 : kI 140 210 = some (.aload_n 0, 1) := by decide +kernel
theorem i_140_211 : kI 140 211 = some (.getfield 172, 3) := by decide +kernel
theorem i_140_214 : kI 140 214 = some (.if_icmp .ge 21, 3) := by decide +kernel
theorem i_140_217 : kI 140 217 = some (.aload_n 0, 1) := by decide +kernel
theorem i_140_218 : kI 140 218 = some (.getfield 70, 3) := by decide +kernel
theorem i_140_221 : kI 140 221 = some (.iload_n 3, 1) := by decide +kernel
theorem i_140_222 : kI 140 222 = some (.aload_n 0, 1) := by decide +kernel
theorem i_140_223 : kI 140 223 = some (.getfield 64, 3) := by decide +kernel
theorem i_140_226 : kI 140 226 = some (.iload_n 3, 1) := by decide +kernel
theorem i_140_227 : kI 140 227 = some (.iaload, 1) := by decide +kernel
theorem i_140_228 : kI 140 228 = some (.iastore, 1) := by decide +kernel
theorem i_140_229 : kI 140 229 = some (.iinc 3 1, 3) := by decide +kernel
theorem i_140_232 : kI 140 232 = some (.goto (-23), 3) := by decide +kernel
theorem i_140_235 : kI 140 235 = some (.iload_n 2, 1) := by decide +kernel
theorem i_140_236 : kI 140 236 = some (.ireturn, 1) := by decide +kernel
theorem i_141_0 : kI 141 0 = some (.aload_n 0, 1) := by decide +kernel
theorem i_141_1 : kI 141 1 = some (.iconst 0, 1) := by decide +kernel
theorem i_141_2 : kI 141 2 = some (.putfield 88, 3) := by decide +kernel
theorem i_141_5 : kI 141 5 = some (.iload_n 1, 1) := by decide +kernel
theorem i_141_6 : kI 141 6 = some (.iconst 0, 1) := by decide +kernel
theorem i_141_7 : kI 141 7 = some (.aload_n 0, 1) := by decide +kernel
theorem i_141_8 : kI 141 8 = some (.getfield 172, 3) := by decide +kernel
theorem i_141_11 : kI 141 11 = some (.iconst 1, 1) := by decide +kernel
theorem i_141_12 : kI 141 12 = some (.isub, 1) := by decide +kernel
theorem i_141_13 : kI 141 13 = some (.invokestatic 94, 3) := by decide +kernel
theorem i_141_16 : kI 141 16 = some (.ifCond .eq 12, 3) := by decide +kernel
theorem i_141_19 : kI 141 19 = some (.aload_n 0, 1) := by decide +kernel
theorem i_141_20 : kI 141 20 = some (.getfield 70, 3) := by decide +kernel
theorem i_141_23 : kI 141 23 = some (.iload_n 1, 1) := by decide +kernel
theorem i_141_24 : kI 141 24 = some (.iaload, 1) := by decide +kernel
theorem i_141_25 : kI 141 25 = some (.goto 4, 3) := by decide +kernel
theorem i_141_28 : kI 141 28 = some (.iconst 0, 1) := by decide +kernel
theorem i_141_29 : kI 141 29 = some (.ireturn, 1) := by decide +kernel
theorem i_142_0 : kI 142 0 = some (.aload_n 0, 1) := by decide +kernel
theorem i_142_1 : kI 142 1 = some (.iconst 0, 1) := by decide +kernel
theorem i_142_2 : kI 142 2 = some (.putfield 88, 3) := by decide +kernel
theorem i_142_5 : kI 142 5 = some (.aload_n 0, 1) := by decide +kernel
theorem i_142_6 : kI 142 6 = some (.getfield 169, 3) := by decide +kernel
theorem i_142_9 : kI 142 9 = some (.ireturn, 1) := by decide +kernel
