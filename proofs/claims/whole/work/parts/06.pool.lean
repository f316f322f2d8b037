theorem f_0_10 : kFld 0 10 = some (0, 0) := by decide +kernel
theorem f_0_16 : kFld 0 16 = some (0, 1) := by decide +kernel
theorem f_0_23 : kFld 0 23 = some (0, 2) := by decide +kernel
theorem f_0_30 : kFld 0 30 = some (0, 3) := by decide +kernel
theorem f_0_34 : kFld 0 34 = some (0, 4) := by decide +kernel
theorem f_0_37 : kFld 0 37 = some (0, 5) := by decide +kernel
theorem f_0_41 : kFld 0 41 = some (0, 6) := by decide +kernel
theorem f_0_52 : kFld 0 52 = some (5, 1) := by decide +kernel
theorem f_0_55 : kFld 0 55 = some (5, 2) := by decide +kernel
theorem f_0_80 : kFld 0 80 = some (4, 1) := by decide +kernel
theorem f_0_90 : kFld 0 90 = some (4, 4) := by decide +kernel
theorem f_0_150 : kFld 0 150 = some (2, 1) := by decide +kernel
theorem f_0_166 : kFld 0 166 = some (6, 9) := by decide +kernel
theorem f_0_171 : kFld 0 171 = some (2, 2) := by decide +kernel
theorem f_0_185 : kFld 0 185 = some (3, 1) := by decide +kernel
theorem f_0_188 : kFld 0 188 = some (6, 10) := by decide +kernel
theorem f_1_9 : kFld 1 9 = some (1, 0) := by decide +kernel
theorem f_1_15 : kFld 1 15 = some (1, 1) := by decide +kernel
theorem f_1_18 : kFld 1 18 = some (1, 2) := by decide +kernel
theorem f_1_22 : kFld 1 22 = some (1, 3) := by decide +kernel
theorem f_2_9 : kFld 2 9 = some (2, 0) := by decide +kernel
theorem f_2_17 : kFld 2 17 = some (2, 4) := by decide +kernel
theorem f_2_21 : kFld 2 21 = some (2, 2) := by decide +kernel
theorem f_2_25 : kFld 2 25 = some (2, 1) := by decide +kernel
theorem f_2_28 : kFld 2 28 = some (2, 3) := by decide +kernel
theorem f_2_31 : kFld 2 31 = some (2, 5) := by decide +kernel
theorem f_2_66 : kFld 2 66 = some (6, 0) := by decide +kernel
theorem f_2_73 : kFld 2 73 = some (6, 7) := by decide +kernel
theorem f_2_77 : kFld 2 77 = some (6, 8) := by decide +kernel
theorem f_2_84 : kFld 2 84 = some (6, 9) := by decide +kernel
theorem f_2_91 : kFld 2 91 = some (5, 1) := by decide +kernel
theorem f_2_98 : kFld 2 98 = some (6, 6) := by decide +kernel
theorem f_2_102 : kFld 2 102 = some (6, 1) := by decide +kernel
theorem f_2_105 : kFld 2 105 = some (6, 3) := by decide +kernel
theorem f_2_108 : kFld 2 108 = some (6, 4) := by decide +kernel
theorem f_2_111 : kFld 2 111 = some (6, 5) := by decide +kernel
theorem f_2_114 : kFld 2 114 = some (6, 2) := by decide +kernel
theorem f_2_120 : kFld 2 120 = some (4, 0) := by decide +kernel
theorem f_2_137 : kFld 2 137 = some (4, 1) := by decide +kernel
theorem f_3_9 : kFld 3 9 = some (3, 1) := by decide +kernel
theorem f_3_19 : kFld 3 19 = some (3, 0) := by decide +kernel
theorem f_3_31 : kFld 3 31 = some (6, 7) := by decide +kernel
theorem f_3_35 : kFld 3 35 = some (6, 8) := by decide +kernel
theorem f_3_38 : kFld 3 38 = some (6, 0) := by decide +kernel
theorem f_3_45 : kFld 3 45 = some (6, 6) := by decide +kernel
theorem f_3_76 : kFld 3 76 = some (6, 12) := by decide +kernel
theorem f_3_83 : kFld 3 83 = some (6, 1) := by decide +kernel
theorem f_3_86 : kFld 3 86 = some (6, 4) := by decide +kernel
theorem f_3_99 : kFld 3 99 = some (6, 10) := by decide +kernel
theorem f_3_111 : kFld 3 111 = some (6, 3) := by decide +kernel
theorem f_3_121 : kFld 3 121 = some (6, 9) := by decide +kernel
theorem f_3_124 : kFld 3 124 = some (6, 5) := by decide +kernel
theorem f_3_127 : kFld 3 127 = some (6, 13) := by decide +kernel
theorem f_3_138 : kFld 3 138 = some (6, 2) := by decide +kernel
theorem f_3_141 : kFld 3 141 = some (6, 14) := by decide +kernel
theorem f_3_148 : kFld 3 148 = some (6, 11) := by decide +kernel
theorem f_3_161 : kFld 3 161 = some (6, 15) := by decide +kernel
theorem f_3_167 : kFld 3 167 = some (1, 3) := by decide +kernel
theorem f_4_9 : kFld 4 9 = some (4, 0) := by decide +kernel
theorem f_4_15 : kFld 4 15 = some (4, 1) := by decide +kernel
theorem f_4_19 : kFld 4 19 = some (4, 2) := by decide +kernel
theorem f_4_23 : kFld 4 23 = some (4, 3) := by decide +kernel
theorem f_4_26 : kFld 4 26 = some (4, 4) := by decide +kernel
theorem f_4_46 : kFld 4 46 = some (4, 5) := by decide +kernel
theorem f_5_11 : kFld 5 11 = some (5, 0) := by decide +kernel
theorem f_5_17 : kFld 5 17 = some (5, 1) := by decide +kernel
theorem f_5_24 : kFld 5 24 = some (5, 2) := by decide +kernel
theorem f_5_28 : kFld 5 28 = some (5, 3) := by decide +kernel
theorem f_6_9 : kFld 6 9 = some (6, 5) := by decide +kernel
theorem f_6_15 : kFld 6 15 = some (6, 10) := by decide +kernel
theorem f_6_21 : kFld 6 21 = some (6, 11) := by decide +kernel
theorem f_6_25 : kFld 6 25 = some (6, 0) := by decide +kernel
theorem f_6_29 : kFld 6 29 = some (6, 1) := by decide +kernel
theorem f_6_32 : kFld 6 32 = some (6, 2) := by decide +kernel
theorem f_6_35 : kFld 6 35 = some (6, 3) := by decide +kernel
theorem f_6_38 : kFld 6 38 = some (6, 4) := by decide +kernel
theorem f_6_41 : kFld 6 41 = some (6, 6) := by decide +kernel
theorem f_6_45 : kFld 6 45 = some (6, 7) := by decide +kernel
theorem f_6_49 : kFld 6 49 = some (6, 8) := by decide +kernel
theorem f_6_52 : kFld 6 52 = some (6, 9) := by decide +kernel
theorem f_6_55 : kFld 6 55 = some (6, 12) := by decide +kernel
theorem f_6_58 : kFld 6 58 = some (6, 13) := by decide +kernel
theorem f_6_62 : kFld 6 62 = some (6, 14) := by decide +kernel
theorem f_6_65 : kFld 6 65 = some (6, 15) := by decide +kernel
theorem f_7_7 : kFld 7 7 = some (7, 2) := by decide +kernel
theorem f_7_13 : kFld 7 13 = some (7, 3) := by decide +kernel
theorem f_7_17 : kFld 7 17 = some (7, 4) := by decide +kernel
theorem f_7_20 : kFld 7 20 = some (7, 5) := by decide +kernel
theorem f_7_23 : kFld 7 23 = some (7, 6) := by decide +kernel
theorem f_7_26 : kFld 7 26 = some (7, 9) := by decide +kernel
theorem f_7_29 : kFld 7 29 = some (7, 10) := by decide +kernel
theorem f_7_32 : kFld 7 32 = some (7, 12) := by decide +kernel
theorem f_7_35 : kFld 7 35 = some (7, 13) := by decide +kernel
theorem f_7_38 : kFld 7 38 = some (7, 14) := by decide +kernel
theorem f_7_42 : kFld 7 42 = some (7, 17) := by decide +kernel
theorem f_7_45 : kFld 7 45 = some (7, 18) := by decide +kernel
theorem f_7_48 : kFld 7 48 = some (7, 19) := by decide +kernel
theorem f_7_51 : kFld 7 51 = some (7, 20) := by decide +kernel
theorem f_7_54 : kFld 7 54 = some (7, 21) := by decide +kernel
theorem f_7_57 : kFld 7 57 = some (7, 26) := by decide +kernel
theorem f_7_61 : kFld 7 61 = some (7, 27) := by decide +kernel
theorem f_7_64 : kFld 7 64 = some (7, 28) := by decide +kernel
theorem f_7_67 : kFld 7 67 = some (7, 29) := by decide +kernel
theorem f_7_70 : kFld 7 70 = some (7, 30) := by decide +kernel
theorem f_7_73 : kFld 7 73 = some (7, 32) := by decide +kernel
theorem f_7_76 : kFld 7 76 = some (7, 33) := by decide +kernel
theorem f_7_79 : kFld 7 79 = some (7, 34) := by decide +kernel
theorem f_7_82 : kFld 7 82 = some (7, 38) := by decide +kernel
theorem f_7_85 : kFld 7 85 = some (7, 39) := by decide +kernel
theorem f_7_88 : kFld 7 88 = some (7, 0) := by decide +kernel
theorem f_7_91 : kFld 7 91 = some (7, 1) := by decide +kernel
theorem f_7_102 : kFld 7 102 = some (7, 7) := by decide +kernel
theorem f_7_106 : kFld 7 106 = some (7, 15) := by decide +kernel
theorem f_7_117 : kFld 7 117 = some (7, 8) := by decide +kernel
theorem f_7_130 : kFld 7 130 = some (7, 11) := by decide +kernel
theorem f_7_133 : kFld 7 133 = some (7, 23) := by decide +kernel
theorem f_7_136 : kFld 7 136 = some (7, 22) := by decide +kernel
theorem f_7_149 : kFld 7 149 = some (7, 16) := by decide +kernel
theorem f_7_169 : kFld 7 169 = some (7, 24) := by decide +kernel
theorem f_7_172 : kFld 7 172 = some (7, 31) := by decide +kernel
theorem f_7_178 : kFld 7 178 = some (7, 35) := by decide +kernel
theorem f_7_181 : kFld 7 181 = some (7, 36) := by decide +kernel
theorem f_7_187 : kFld 7 187 = some (7, 37) := by decide +kernel
theorem f_7_194 : kFld 7 194 = some (7, 25) := by decide +kernel
theorem m_0_9 : kMth 0 9 = some 82 := by decide +kernel
theorem m_0_22 : kMth 0 22 = some 30 := by decide +kernel
theorem m_0_29 : kMth 0 29 = some 45 := by decide +kernel
theorem m_0_64 : kMth 0 64 = some 84 := by decide +kernel
theorem m_0_68 : kMth 0 68 = some 83 := by decide +kernel
theorem m_0_72 : kMth 0 72 = some 71 := by decide +kernel
theorem m_0_93 : kMth 0 93 = some 85 := by decide +kernel
theorem m_0_98 : kMth 0 98 = some 86 := by decide +kernel
theorem m_0_102 : kMth 0 102 = some 75 := by decide +kernel
theorem m_0_106 : kMth 0 106 = some 76 := by decide +kernel
theorem m_0_112 : kMth 0 112 = some 78 := by decide +kernel
theorem m_0_116 : kMth 0 116 = some 157 := by decide +kernel
theorem m_0_121 : kMth 0 121 = some 158 := by decide +kernel
theorem m_0_124 : kMth 0 124 = some 79 := by decide +kernel
theorem m_0_130 : kMth 0 130 = some 87 := by decide +kernel
theorem m_0_135 : kMth 0 135 = some 88 := by decide +kernel
theorem m_0_139 : kMth 0 139 = some 89 := by decide +kernel
theorem m_0_142 : kMth 0 142 = some 72 := by decide +kernel
theorem m_0_147 : kMth 0 147 = some 73 := by decide +kernel
theorem m_0_153 : kMth 0 153 = some 31 := by decide +kernel
theorem m_0_156 : kMth 0 156 = some 32 := by decide +kernel
theorem m_0_160 : kMth 0 160 = some 46 := by decide +kernel
theorem m_0_178 : kMth 0 178 = some 47 := by decide +kernel
theorem m_0_182 : kMth 0 182 = some 17 := by decide +kernel
theorem m_1_31 : kMth 1 31 = some 24 := by decide +kernel
theorem m_1_35 : kMth 1 35 = some 21 := by decide +kernel
theorem m_1_39 : kMth 1 39 = some 26 := by decide +kernel
theorem m_1_43 : kMth 1 43 = some 28 := by decide +kernel
theorem m_2_34 : kMth 2 34 = some 38 := by decide +kernel
theorem m_2_38 : kMth 2 38 = some 34 := by decide +kernel
theorem m_2_42 : kMth 2 42 = some 33 := by decide +kernel
theorem m_2_46 : kMth 2 46 = some 35 := by decide +kernel
theorem m_2_50 : kMth 2 50 = some 90 := by decide +kernel
theorem m_2_51 : kMth 2 51 = some 91 := by decide +kernel
theorem m_2_54 : kMth 2 54 = some 36 := by decide +kernel
theorem m_2_58 : kMth 2 58 = some 37 := by decide +kernel
theorem m_2_62 : kMth 2 62 = some 40 := by decide +kernel
theorem m_2_69 : kMth 2 69 = some 39 := by decide +kernel
theorem m_2_80 : kMth 2 80 = some 41 := by decide +kernel
theorem m_2_87 : kMth 2 87 = some 44 := by decide +kernel
theorem m_2_94 : kMth 2 94 = some 83 := by decide +kernel
theorem m_2_117 : kMth 2 117 = some 18 := by decide +kernel
theorem m_2_125 : kMth 2 125 = some 42 := by decide +kernel
theorem m_2_129 : kMth 2 129 = some 43 := by decide +kernel
theorem m_2_133 : kMth 2 133 = some 71 := by decide +kernel
theorem m_3_15 : kMth 3 15 = some 48 := by decide +kernel
theorem m_3_22 : kMth 3 22 = some 49 := by decide +kernel
theorem m_3_26 : kMth 3 26 = some 92 := by decide +kernel
theorem m_3_41 : kMth 3 41 = some 50 := by decide +kernel
theorem m_3_49 : kMth 3 49 = some 53 := by decide +kernel
theorem m_3_52 : kMth 3 52 = some 51 := by decide +kernel
theorem m_3_55 : kMth 3 55 = some 55 := by decide +kernel
theorem m_3_58 : kMth 3 58 = some 56 := by decide +kernel
theorem m_3_61 : kMth 3 61 = some 59 := by decide +kernel
theorem m_3_64 : kMth 3 64 = some 60 := by decide +kernel
theorem m_3_67 : kMth 3 67 = some 61 := by decide +kernel
theorem m_3_70 : kMth 3 70 = some 62 := by decide +kernel
theorem m_3_73 : kMth 3 73 = some 63 := by decide +kernel
theorem m_3_79 : kMth 3 79 = some 52 := by decide +kernel
theorem m_3_89 : kMth 3 89 = some 77 := by decide +kernel
theorem m_3_95 : kMth 3 95 = some 72 := by decide +kernel
theorem m_3_103 : kMth 3 103 = some 74 := by decide +kernel
theorem m_3_108 : kMth 3 108 = some 68 := by decide +kernel
theorem m_3_114 : kMth 3 114 = some 54 := by decide +kernel
theorem m_3_118 : kMth 3 118 = some 69 := by decide +kernel
theorem m_3_131 : kMth 3 131 = some 57 := by decide +kernel
theorem m_3_135 : kMth 3 135 = some 18 := by decide +kernel
theorem m_3_144 : kMth 3 144 = some 58 := by decide +kernel
theorem m_3_152 : kMth 3 152 = some 27 := by decide +kernel
theorem m_3_158 : kMth 3 158 = some 24 := by decide +kernel
theorem m_3_164 : kMth 3 164 = some 64 := by decide +kernel
theorem m_3_170 : kMth 3 170 = some 23 := by decide +kernel
theorem m_3_171 : kMth 3 171 = some 65 := by decide +kernel
theorem m_3_174 : kMth 3 174 = some 66 := by decide +kernel
theorem m_3_177 : kMth 3 177 = some 25 := by decide +kernel
theorem m_3_181 : kMth 3 181 = some 29 := by decide +kernel
theorem m_3_185 : kMth 3 185 = some 21 := by decide +kernel
theorem m_3_189 : kMth 3 189 = some 67 := by decide +kernel
theorem m_3_192 : kMth 3 192 = some 22 := by decide +kernel
theorem m_4_29 : kMth 4 29 = some 72 := by decide +kernel
theorem m_4_33 : kMth 4 33 = some 71 := by decide +kernel
theorem m_4_42 : kMth 4 42 = some 73 := by decide +kernel
theorem m_5_21 : kMth 5 21 = some 70 := by decide +kernel
theorem m_5_31 : kMth 5 31 = some 83 := by decide +kernel
theorem m_5_35 : kMth 5 35 = some 80 := by decide +kernel
theorem m_5_38 : kMth 5 38 = some 81 := by decide +kernel
theorem m_6_20 : kMth 6 20 = some 19 := by decide +kernel
theorem m_6_68 : kMth 6 68 = some 20 := by decide +kernel
theorem m_7_94 : kMth 7 94 = some 95 := by decide +kernel
theorem m_7_98 : kMth 7 98 = some 97 := by decide +kernel
theorem m_7_109 : kMth 7 109 = some 98 := by decide +kernel
theorem m_7_113 : kMth 7 113 = some 96 := by decide +kernel
theorem m_7_120 : kMth 7 120 = some 99 := by decide +kernel
theorem m_7_123 : kMth 7 123 = some 104 := by decide +kernel
theorem m_7_126 : kMth 7 126 = some 108 := by decide +kernel
theorem m_7_139 : kMth 7 139 = some 112 := by decide +kernel
theorem m_7_145 : kMth 7 145 = some 113 := by decide +kernel
theorem m_7_152 : kMth 7 152 = some 116 := by decide +kernel
theorem m_7_155 : kMth 7 155 = some 118 := by decide +kernel
theorem m_7_159 : kMth 7 159 = some 119 := by decide +kernel
theorem m_7_163 : kMth 7 163 = some 114 := by decide +kernel
theorem m_7_166 : kMth 7 166 = some 117 := by decide +kernel
theorem m_7_175 : kMth 7 175 = some 115 := by decide +kernel
theorem m_7_184 : kMth 7 184 = some 122 := by decide +kernel
theorem m_7_190 : kMth 7 190 = some 124 := by decide +kernel
theorem m_7_197 : kMth 7 197 = some 126 := by decide +kernel
theorem m_7_200 : kMth 7 200 = some 125 := by decide +kernel
theorem m_7_203 : kMth 7 203 = some 123 := by decide +kernel
theorem m_7_206 : kMth 7 206 = some 127 := by decide +kernel
theorem m_7_208 : kMth 7 208 = some 133 := by decide +kernel
theorem m_7_211 : kMth 7 211 = some 130 := by decide +kernel
theorem m_7_214 : kMth 7 214 = some 132 := by decide +kernel
theorem m_7_217 : kMth 7 217 = some 137 := by decide +kernel
theorem m_7_220 : kMth 7 220 = some 138 := by decide +kernel
theorem m_7_223 : kMth 7 223 = some 139 := by decide +kernel
theorem m_7_226 : kMth 7 226 = some 135 := by decide +kernel
theorem m_7_229 : kMth 7 229 = some 134 := by decide +kernel
theorem m_7_232 : kMth 7 232 = some 136 := by decide +kernel
theorem m_7_236 : kMth 7 236 = some 128 := by decide +kernel
theorem m_7_239 : kMth 7 239 = some 129 := by decide +kernel
theorem m_7_242 : kMth 7 242 = some 131 := by decide +kernel
theorem m_8_7 : kMth 8 7 = some 1 := by decide +kernel
theorem m_8_17 : kMth 8 17 = some 2 := by decide +kernel
theorem m_8_21 : kMth 8 21 = some 3 := by decide +kernel
theorem m_8_24 : kMth 8 24 = some 4 := by decide +kernel
theorem m_8_27 : kMth 8 27 = some 5 := by decide +kernel
theorem m_8_31 : kMth 8 31 = some 6 := by decide +kernel
theorem m_8_35 : kMth 8 35 = some 7 := by decide +kernel
theorem m_8_38 : kMth 8 38 = some 8 := by decide +kernel
theorem m_8_42 : kMth 8 42 = some 9 := by decide +kernel
theorem m_8_45 : kMth 8 45 = some 10 := by decide +kernel
theorem m_8_48 : kMth 8 48 = some 11 := by decide +kernel
theorem m_8_51 : kMth 8 51 = some 12 := by decide +kernel
theorem m_8_54 : kMth 8 54 = some 14 := by decide +kernel
theorem m_8_57 : kMth 8 57 = some 0 := by decide +kernel
theorem m_8_60 : kMth 8 60 = some 93 := by decide +kernel
theorem m_8_61 : kMth 8 61 = some 143 := by decide +kernel
theorem m_8_66 : kMth 8 66 = some 100 := by decide +kernel
theorem m_8_67 : kMth 8 67 = some 94 := by decide +kernel
theorem m_8_70 : kMth 8 70 = some 144 := by decide +kernel
theorem m_8_73 : kMth 8 73 = some 101 := by decide +kernel
theorem m_8_74 : kMth 8 74 = some 145 := by decide +kernel
theorem m_8_76 : kMth 8 76 = some 102 := by decide +kernel
theorem m_8_77 : kMth 8 77 = some 146 := by decide +kernel
theorem m_8_79 : kMth 8 79 = some 103 := by decide +kernel
theorem m_8_80 : kMth 8 80 = some 147 := by decide +kernel
theorem m_8_83 : kMth 8 83 = some 105 := by decide +kernel
theorem m_8_84 : kMth 8 84 = some 148 := by decide +kernel
theorem m_8_87 : kMth 8 87 = some 106 := by decide +kernel
theorem m_8_88 : kMth 8 88 = some 149 := by decide +kernel
theorem m_8_91 : kMth 8 91 = some 107 := by decide +kernel
theorem m_8_92 : kMth 8 92 = some 150 := by decide +kernel
theorem m_8_95 : kMth 8 95 = some 108 := by decide +kernel
theorem m_8_96 : kMth 8 96 = some 151 := by decide +kernel
theorem m_8_98 : kMth 8 98 = some 109 := by decide +kernel
theorem m_8_99 : kMth 8 99 = some 152 := by decide +kernel
theorem m_8_101 : kMth 8 101 = some 110 := by decide +kernel
theorem m_8_102 : kMth 8 102 = some 153 := by decide +kernel
theorem m_8_104 : kMth 8 104 = some 111 := by decide +kernel
theorem m_8_105 : kMth 8 105 = some 154 := by decide +kernel
theorem m_8_107 : kMth 8 107 = some 120 := by decide +kernel
theorem m_8_108 : kMth 8 108 = some 13 := by decide +kernel
theorem m_8_111 : kMth 8 111 = some 121 := by decide +kernel
theorem m_8_112 : kMth 8 112 = some 155 := by decide +kernel
theorem m_8_114 : kMth 8 114 = some 140 := by decide +kernel
theorem m_8_115 : kMth 8 115 = some 15 := by decide +kernel
theorem m_8_118 : kMth 8 118 = some 141 := by decide +kernel
theorem m_8_119 : kMth 8 119 = some 16 := by decide +kernel
theorem m_8_122 : kMth 8 122 = some 142 := by decide +kernel
theorem n_0_7 : kNew 0 7 = some 5 := by decide +kernel
theorem n_0_20 : kNew 0 20 = some 2 := by decide +kernel
theorem n_0_27 : kNew 0 27 = some 3 := by decide +kernel
theorem n_2_15 : kNew 2 15 = some 6 := by decide +kernel
theorem n_5_9 : kNew 5 9 = some 4 := by decide +kernel
theorem n_6_18 : kNew 6 18 = some 1 := by decide +kernel
theorem n_8_8 : kNew 8 8 = some 0 := by decide +kernel
theorem n_8_58 : kNew 8 58 = some 7 := by decide +kernel
theorem a_2_15 : kANew 2 15 = some 4 := by decide +kernel
theorem a_5_9 : kANew 5 9 = some 3 := by decide +kernel
theorem c_3_107 : kCst 3 107 = some (1000000) := by decide +kernel
theorem c_7_60 : kCst 7 60 = some (108000) := by decide +kernel
theorem c_7_143 : kCst 7 143 = some (-2147483648) := by decide +kernel
theorem c_7_144 : kCst 7 144 = some (2147483647) := by decide +kernel
theorem x_0_191 : kNat 0 191 = some 0 := by decide +kernel
theorem x_1_25 : kNat 1 25 = some 0 := by decide +kernel
theorem x_3_196 : kNat 3 196 = some 1 := by decide +kernel
theorem x_3_201 : kNat 3 201 = some 2 := by decide +kernel
theorem x_3_204 : kNat 3 204 = some 0 := by decide +kernel
theorem x_4_36 : kNat 4 36 = some 0 := by decide +kernel
theorem o_0_1 : kObj 0 1 = true := by decide +kernel
theorem o_1_3 : kObj 1 3 = true := by decide +kernel
theorem o_2_3 : kObj 2 3 = true := by decide +kernel
theorem o_3_3 : kObj 3 3 = true := by decide +kernel
theorem o_4_3 : kObj 4 3 = true := by decide +kernel
theorem o_5_3 : kObj 5 3 = true := by decide +kernel
theorem o_6_3 : kObj 6 3 = true := by decide +kernel
theorem o_7_1 : kObj 7 1 = true := by decide +kernel
theorem t_1_11 : kThr 1 11 = some 0 := by decide +kernel
theorem t_1_43 : kThr 1 43 = some 1 := by decide +kernel
theorem t_2_21 : kThr 2 21 = some 0 := by decide +kernel
theorem t_2_50 : kThr 2 50 = some 1 := by decide +kernel
theorem t_3_10 : kThr 3 10 = some 0 := by decide +kernel
theorem t_4_13 : kThr 4 13 = some 0 := by decide +kernel
theorem t_4_43 : kThr 4 43 = some 1 := by decide +kernel
theorem t_5_24 : kThr 5 24 = some 0 := by decide +kernel
theorem t_5_55 : kThr 5 55 = some 1 := by decide +kernel
theorem t_6_51 : kThr 6 51 = some 0 := by decide +kernel
theorem t_6_83 : kThr 6 83 = some 1 := by decide +kernel
theorem t_7_10 : kThr 7 10 = some 1 := by decide +kernel
theorem t_8_10 : kThr 8 10 = some 1 := by decide +kernel
theorem t_9_10 : kThr 9 10 = some 1 := by decide +kernel
theorem t_10_15 : kThr 10 15 = some 0 := by decide +kernel
theorem t_10_54 : kThr 10 54 = some 0 := by decide +kernel
theorem t_11_12 : kThr 11 12 = some 1 := by decide +kernel
theorem t_12_38 : kThr 12 38 = some 0 := by decide +kernel
theorem t_14_12 : kThr 14 12 = some 0 := by decide +kernel
theorem t_14_29 : kThr 14 29 = some 1 := by decide +kernel
theorem h_143_4_0 : kHan 143 4 0 = some 12 := by decide +kernel
theorem h_143_4_1 : kHan 143 4 1 = some 15 := by decide +kernel
theorem h_144_3_0 : kHan 144 3 0 = some 9 := by decide +kernel
theorem h_144_3_1 : kHan 144 3 1 = some 12 := by decide +kernel
theorem h_145_3_0 : kHan 145 3 0 = some 9 := by decide +kernel
theorem h_146_4_0 : kHan 146 4 0 = some 12 := by decide +kernel
theorem h_146_4_1 : kHan 146 4 1 = some 15 := by decide +kernel
theorem h_147_7_0 : kHan 147 7 0 = some 15 := by decide +kernel
theorem h_147_7_1 : kHan 147 7 1 = some 19 := by decide +kernel
theorem h_148_9_0 : kHan 148 9 0 = some 17 := by decide +kernel
theorem h_148_9_1 : kHan 148 9 1 = some 21 := by decide +kernel
theorem h_149_1_1 : kHan 149 1 1 = some 7 := by decide +kernel
theorem h_150_3_1 : kHan 150 3 1 = some 11 := by decide +kernel
theorem h_151_3_1 : kHan 151 3 1 = some 11 := by decide +kernel
theorem h_152_7_0 : kHan 152 7 0 = some 15 := by decide +kernel
theorem h_153_4_1 : kHan 153 4 1 = some 12 := by decide +kernel
theorem h_154_3_0 : kHan 154 3 0 = some 11 := by decide +kernel
theorem h_155_4_0 : kHan 155 4 0 = some 12 := by decide +kernel
theorem h_155_4_1 : kHan 155 4 1 = some 15 := by decide +kernel
