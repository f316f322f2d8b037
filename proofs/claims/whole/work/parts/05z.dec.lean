theorem kDc_0 : ∀ q ∈ kCode_0, decode prog_1_method_1_code q.1 = .ok q.2 := by decide +kernel
theorem kDc_1 : ∀ q ∈ kCode_1, decode prog_1_method_2_code q.1 = .ok q.2 := by decide +kernel
theorem kDc_2 : ∀ q ∈ kCode_2, decode prog_1_method_3_code q.1 = .ok q.2 := by decide +kernel
theorem kDc_3 : ∀ q ∈ kCode_3, decode prog_1_method_4_code q.1 = .ok q.2 := by decide +kernel
theorem kDc_4 : ∀ q ∈ kCode_4, decode prog_1_method_5_code q.1 = .ok q.2 := by decide +kernel
theorem kDc_5 : ∀ q ∈ kCode_5, decode prog_1_method_6_code q.1 = .ok q.2 := by decide +kernel
theorem kDc_6 : ∀ q ∈ kCode_6, decode prog_1_method_7_code q.1 = .ok q.2 := by decide +kernel
theorem kDc_7 : ∀ q ∈ kCode_7, decode prog_1_method_8_code q.1 = .ok q.2 := by decide +kernel
theorem kDc_8 : ∀ q ∈ kCode_8, decode prog_1_method_9_code q.1 = .ok q.2 := by decide +kernel
theorem kDc_9 : ∀ q ∈ kCode_9, decode prog_1_method_10_code q.1 = .ok q.2 := by decide +kernel
theorem kDc_10 : ∀ q ∈ kCode_10, decode prog_1_method_11_code q.1 = .ok q.2 := by decide +kernel
theorem kDc_11 : ∀ q ∈ kCode_11, decode prog_1_method_12_code q.1 = .ok q.2 := by decide +kernel
theorem kDc_12 : ∀ q ∈ kCode_12, decode prog_1_method_13_code q.1 = .ok q.2 := by decide +kernel
theorem kDc_13 : ∀ q ∈ kCode_13, decode prog_1_method_14_code q.1 = .ok q.2 := by decide +kernel
theorem kDc_14 : ∀ q ∈ kCode_14, decode prog_1_method_15_code q.1 = .ok q.2 := by decide +kernel
theorem kDc_15 : ∀ q ∈ kCode_15, decode prog_1_method_16_code q.1 = .ok q.2 := by decide +kernel
theorem kDc_16 : ∀ q ∈ kCode_16, decode prog_1_method_17_code q.1 = .ok q.2 := by decide +kernel
theorem kDc_17 : ∀ q ∈ kCode_17, decode prog_1_method_18_code q.1 = .ok q.2 := by decide +kernel
theorem kDc_18 : ∀ q ∈ kCode_18, decode prog_1_method_19_code q.1 = .ok q.2 := by decide +kernel
theorem kDc_19 : ∀ q ∈ kCode_19, decode prog_2_method_1_code q.1 = .ok q.2 := by decide +kernel
theorem kDc_20 : ∀ q ∈ kCode_20, decode prog_2_method_2_code q.1 = .ok q.2 := by decide +kernel
theorem kDc_21 : ∀ q ∈ kCode_21, decode prog_2_method_3_code q.1 = .ok q.2 := by decide +kernel
theorem kDc_22 : ∀ q ∈ kCode_22, decode prog_2_method_4_code q.1 = .ok q.2 := by decide +kernel
theorem kDc_23 : ∀ q ∈ kCode_23, decode prog_2_method_5_code q.1 = .ok q.2 := by decide +kernel
theorem kDc_24 : ∀ q ∈ kCode_24, decode prog_2_method_6_code q.1 = .ok q.2 := by decide +kernel
theorem kDc_25 : ∀ q ∈ kCode_25, decode prog_2_method_7_code q.1 = .ok q.2 := by decide +kernel
theorem kDc_26 : ∀ q ∈ kCode_26, decode prog_2_method_8_code q.1 = .ok q.2 := by decide +kernel
theorem kDc_27 : ∀ q ∈ kCode_27, decode prog_2_method_9_code q.1 = .ok q.2 := by decide +kernel
theorem kDc_28 : ∀ q ∈ kCode_28, decode prog_2_method_10_code q.1 = .ok q.2 := by decide +kernel
theorem kDc_29 : ∀ q ∈ kCode_29, decode prog_2_method_11_code q.1 = .ok q.2 := by decide +kernel
theorem kDc_30 : ∀ q ∈ kCode_30, decode prog_3_method_1_code q.1 = .ok q.2 := by decide +kernel
theorem kDc_31 : ∀ q ∈ kCode_31, decode prog_3_method_2_code q.1 = .ok q.2 := by decide +kernel
theorem kDc_32 : ∀ q ∈ kCode_32, decode prog_3_method_3_code q.1 = .ok q.2 := by decide +kernel
theorem kDc_33 : ∀ q ∈ kCode_33, decode prog_3_method_4_code q.1 = .ok q.2 := by decide +kernel
theorem kDc_34 : ∀ q ∈ kCode_34, decode prog_3_method_5_code q.1 = .ok q.2 := by decide +kernel
theorem kDc_35 : ∀ q ∈ kCode_35, decode prog_3_method_6_code q.1 = .ok q.2 := by decide +kernel
theorem kDc_36 : ∀ q ∈ kCode_36, decode prog_3_method_7_code q.1 = .ok q.2 := by decide +kernel
theorem kDc_37 : ∀ q ∈ kCode_37, decode prog_3_method_8_code q.1 = .ok q.2 := by decide +kernel
theorem kDc_38 : ∀ q ∈ kCode_38, decode prog_3_method_9_code q.1 = .ok q.2 := by decide +kernel
theorem kDc_39 : ∀ q ∈ kCode_39, decode prog_3_method_10_code q.1 = .ok q.2 := by decide +kernel
theorem kDc_40 : ∀ q ∈ kCode_40, decode prog_3_method_11_code q.1 = .ok q.2 := by decide +kernel
theorem kDc_41 : ∀ q ∈ kCode_41, decode prog_3_method_12_code q.1 = .ok q.2 := by decide +kernel
theorem kDc_42 : ∀ q ∈ kCode_42, decode prog_3_method_13_code q.1 = .ok q.2 := by decide +kernel
theorem kDc_43 : ∀ q ∈ kCode_43, decode prog_3_method_14_code q.1 = .ok q.2 := by decide +kernel
theorem kDc_44 : ∀ q ∈ kCode_44, decode prog_3_method_15_code q.1 = .ok q.2 := by decide +kernel
theorem kDc_45 : ∀ q ∈ kCode_45, decode prog_4_method_1_code q.1 = .ok q.2 := by decide +kernel
theorem kDc_46 : ∀ q ∈ kCode_46, decode prog_4_method_2_code q.1 = .ok q.2 := by decide +kernel
theorem kDc_47 : ∀ q ∈ kCode_47, decode prog_4_method_3_code q.1 = .ok q.2 := by decide +kernel
theorem kDc_48 : ∀ q ∈ kCode_48, decode prog_4_method_4_code q.1 = .ok q.2 := by decide +kernel
theorem kDc_49 : ∀ q ∈ kCode_49, decode prog_4_method_5_code q.1 = .ok q.2 := by decide +kernel
theorem kDc_50 : ∀ q ∈ kCode_50, decode prog_4_method_6_code q.1 = .ok q.2 := by decide +kernel
theorem kDc_51 : ∀ q ∈ kCode_51, decode prog_4_method_7_code q.1 = .ok q.2 := by decide +kernel
theorem kDc_52 : ∀ q ∈ kCode_52, decode prog_4_method_8_code q.1 = .ok q.2 := by decide +kernel
theorem kDc_53 : ∀ q ∈ kCode_53, decode prog_4_method_9_code q.1 = .ok q.2 := by decide +kernel
theorem kDc_54 : ∀ q ∈ kCode_54, decode prog_4_method_10_code q.1 = .ok q.2 := by decide +kernel
theorem kDc_55 : ∀ q ∈ kCode_55, decode prog_4_method_11_code q.1 = .ok q.2 := by decide +kernel
theorem kDc_56 : ∀ q ∈ kCode_56, decode prog_4_method_12_code q.1 = .ok q.2 := by decide +kernel
theorem kDc_57 : ∀ q ∈ kCode_57, decode prog_4_method_13_code q.1 = .ok q.2 := by decide +kernel
theorem kDc_58 : ∀ q ∈ kCode_58, decode prog_4_method_14_code q.1 = .ok q.2 := by decide +kernel
theorem kDc_59 : ∀ q ∈ kCode_59, decode prog_4_method_15_code q.1 = .ok q.2 := by decide +kernel
theorem kDc_60 : ∀ q ∈ kCode_60, decode prog_4_method_16_code q.1 = .ok q.2 := by decide +kernel
theorem kDc_61 : ∀ q ∈ kCode_61, decode prog_4_method_17_code q.1 = .ok q.2 := by decide +kernel
theorem kDc_62 : ∀ q ∈ kCode_62, decode prog_4_method_18_code q.1 = .ok q.2 := by decide +kernel
theorem kDc_63 : ∀ q ∈ kCode_63, decode prog_4_method_19_code q.1 = .ok q.2 := by decide +kernel
theorem kDc_64 : ∀ q ∈ kCode_64, decode prog_4_method_20_code q.1 = .ok q.2 := by decide +kernel
theorem kDc_65 : ∀ q ∈ kCode_65, decode prog_4_method_21_code q.1 = .ok q.2 := by decide +kernel
theorem kDc_66 : ∀ q ∈ kCode_66, decode prog_4_method_22_code q.1 = .ok q.2 := by decide +kernel
theorem kDc_67 : ∀ q ∈ kCode_67, decode prog_4_method_23_code q.1 = .ok q.2 := by decide +kernel
theorem kDc_68 : ∀ q ∈ kCode_68, decode prog_4_method_24_code q.1 = .ok q.2 := by decide +kernel
theorem kDc_69 : ∀ q ∈ kCode_69, decode prog_4_method_25_code q.1 = .ok q.2 := by decide +kernel
theorem kDc_70 : ∀ q ∈ kCode_70, decode prog_5_method_1_code q.1 = .ok q.2 := by decide +kernel
theorem kDc_71 : ∀ q ∈ kCode_71, decode prog_5_method_2_code q.1 = .ok q.2 := by decide +kernel
theorem kDc_72 : ∀ q ∈ kCode_72, decode prog_5_method_3_code q.1 = .ok q.2 := by decide +kernel
theorem kDc_73 : ∀ q ∈ kCode_73, decode prog_5_method_4_code q.1 = .ok q.2 := by decide +kernel
theorem kDc_74 : ∀ q ∈ kCode_74, decode prog_5_method_5_code q.1 = .ok q.2 := by decide +kernel
theorem kDc_75 : ∀ q ∈ kCode_75, decode prog_5_method_6_code q.1 = .ok q.2 := by decide +kernel
theorem kDc_76 : ∀ q ∈ kCode_76, decode prog_5_method_7_code q.1 = .ok q.2 := by decide +kernel
theorem kDc_77 : ∀ q ∈ kCode_77, decode prog_5_method_8_code q.1 = .ok q.2 := by decide +kernel
theorem kDc_78 : ∀ q ∈ kCode_78, decode prog_5_method_9_code q.1 = .ok q.2 := by decide +kernel
theorem kDc_79 : ∀ q ∈ kCode_79, decode prog_5_method_10_code q.1 = .ok q.2 := by decide +kernel
theorem kDc_80 : ∀ q ∈ kCode_80, decode prog_5_method_11_code q.1 = .ok q.2 := by decide +kernel
theorem kDc_81 : ∀ q ∈ kCode_81, decode prog_5_method_12_code q.1 = .ok q.2 := by decide +kernel
theorem kDc_82 : ∀ q ∈ kCode_82, decode prog_6_method_1_code q.1 = .ok q.2 := by decide +kernel
theorem kDc_83 : ∀ q ∈ kCode_83, decode prog_6_method_2_code q.1 = .ok q.2 := by decide +kernel
theorem kDc_84 : ∀ q ∈ kCode_84, decode prog_6_method_3_code q.1 = .ok q.2 := by decide +kernel
theorem kDc_85 : ∀ q ∈ kCode_85, decode prog_6_method_4_code q.1 = .ok q.2 := by decide +kernel
theorem kDc_86 : ∀ q ∈ kCode_86, decode prog_6_method_5_code q.1 = .ok q.2 := by decide +kernel
theorem kDc_87 : ∀ q ∈ kCode_87, decode prog_6_method_6_code q.1 = .ok q.2 := by decide +kernel
theorem kDc_88 : ∀ q ∈ kCode_88, decode prog_6_method_7_code q.1 = .ok q.2 := by decide +kernel
theorem kDc_89 : ∀ q ∈ kCode_89, decode prog_6_method_8_code q.1 = .ok q.2 := by decide +kernel
theorem kDc_90 : ∀ q ∈ kCode_90, decode prog_7_method_1_code q.1 = .ok q.2 := by decide +kernel
theorem kDc_91 : ∀ q ∈ kCode_91, decode prog_7_method_2_code q.1 = .ok q.2 := by decide +kernel
theorem kDc_92 : ∀ q ∈ kCode_92, decode prog_7_method_3_code q.1 = .ok q.2 := by decide +kernel
theorem kDc_93 : ∀ q ∈ kCode_93, decode prog_9_method_1_code q.1 = .ok q.2 := by decide +kernel
theorem kDc_94 : ∀ q ∈ kCode_94, decode prog_9_method_2_code q.1 = .ok q.2 := by decide +kernel
theorem kDc_95 : ∀ q ∈ kCode_95, decode prog_9_method_3_code q.1 = .ok q.2 := by decide +kernel
theorem kDc_96 : ∀ q ∈ kCode_96, decode prog_9_method_4_code q.1 = .ok q.2 := by decide +kernel
theorem kDc_97 : ∀ q ∈ kCode_97, decode prog_9_method_5_code q.1 = .ok q.2 := by decide +kernel
theorem kDc_98 : ∀ q ∈ kCode_98, decode prog_9_method_6_code q.1 = .ok q.2 := by decide +kernel
theorem kDc_99 : ∀ q ∈ kCode_99, decode prog_9_method_7_code q.1 = .ok q.2 := by decide +kernel
theorem kDc_100 : ∀ q ∈ kCode_100, decode prog_9_method_8_code q.1 = .ok q.2 := by decide +kernel
theorem kDc_101 : ∀ q ∈ kCode_101, decode prog_9_method_9_code q.1 = .ok q.2 := by decide +kernel
theorem kDc_102 : ∀ q ∈ kCode_102, decode prog_9_method_10_code q.1 = .ok q.2 := by decide +kernel
theorem kDc_103 : ∀ q ∈ kCode_103, decode prog_9_method_11_code q.1 = .ok q.2 := by decide +kernel
theorem kDc_104 : ∀ q ∈ kCode_104, decode prog_9_method_12_code q.1 = .ok q.2 := by decide +kernel
theorem kDc_105 : ∀ q ∈ kCode_105, decode prog_9_method_13_code q.1 = .ok q.2 := by decide +kernel
theorem kDc_106 : ∀ q ∈ kCode_106, decode prog_9_method_14_code q.1 = .ok q.2 := by decide +kernel
theorem kDc_107 : ∀ q ∈ kCode_107, decode prog_9_method_15_code q.1 = .ok q.2 := by decide +kernel
theorem kDc_108 : ∀ q ∈ kCode_108, decode prog_9_method_16_code q.1 = .ok q.2 := by decide +kernel
theorem kDc_109 : ∀ q ∈ kCode_109, decode prog_9_method_17_code q.1 = .ok q.2 := by decide +kernel
theorem kDc_110 : ∀ q ∈ kCode_110, decode prog_9_method_18_code q.1 = .ok q.2 := by decide +kernel
theorem kDc_111 : ∀ q ∈ kCode_111, decode prog_9_method_19_code q.1 = .ok q.2 := by decide +kernel
theorem kDc_112 : ∀ q ∈ kCode_112, decode prog_9_method_20_code q.1 = .ok q.2 := by decide +kernel
theorem kDc_113 : ∀ q ∈ kCode_113, decode prog_9_method_21_code q.1 = .ok q.2 := by decide +kernel
theorem kDc_114 : ∀ q ∈ kCode_114, decode prog_9_method_22_code q.1 = .ok q.2 := by decide +kernel
theorem kDc_115 : ∀ q ∈ kCode_115, decode prog_9_method_23_code q.1 = .ok q.2 := by decide +kernel
theorem kDc_116 : ∀ q ∈ kCode_116, decode prog_9_method_24_code q.1 = .ok q.2 := by decide +kernel
theorem kDc_117 : ∀ q ∈ kCode_117, decode prog_9_method_25_code q.1 = .ok q.2 := by decide +kernel
theorem kDc_118 : ∀ q ∈ kCode_118, decode prog_9_method_26_code q.1 = .ok q.2 := by decide +kernel
theorem kDc_119 : ∀ q ∈ kCode_119, decode prog_9_method_27_code q.1 = .ok q.2 := by decide +kernel
theorem kDc_120 : ∀ q ∈ kCode_120, decode prog_9_method_28_code q.1 = .ok q.2 := by decide +kernel
theorem kDc_121 : ∀ q ∈ kCode_121, decode prog_9_method_29_code q.1 = .ok q.2 := by decide +kernel
theorem kDc_122 : ∀ q ∈ kCode_122, decode prog_9_method_30_code q.1 = .ok q.2 := by decide +kernel
theorem kDc_123 : ∀ q ∈ kCode_123, decode prog_9_method_31_code q.1 = .ok q.2 := by decide +kernel
theorem kDc_124 : ∀ q ∈ kCode_124, decode prog_9_method_32_code q.1 = .ok q.2 := by decide +kernel
theorem kDc_125 : ∀ q ∈ kCode_125, decode prog_9_method_33_code q.1 = .ok q.2 := by decide +kernel
theorem kDc_126 : ∀ q ∈ kCode_126, decode prog_9_method_34_code q.1 = .ok q.2 := by decide +kernel
theorem kDc_127 : ∀ q ∈ kCode_127, decode prog_9_method_35_code q.1 = .ok q.2 := by decide +kernel
theorem kDc_128 : ∀ q ∈ kCode_128, decode prog_9_method_36_code q.1 = .ok q.2 := by decide +kernel
theorem kDc_129 : ∀ q ∈ kCode_129, decode prog_9_method_37_code q.1 = .ok q.2 := by decide +kernel
theorem kDc_130 : ∀ q ∈ kCode_130, decode prog_9_method_38_code q.1 = .ok q.2 := by decide +kernel
theorem kDc_131 : ∀ q ∈ kCode_131, decode prog_9_method_39_code q.1 = .ok q.2 := by decide +kernel
theorem kDc_132 : ∀ q ∈ kCode_132, decode prog_9_method_40_code q.1 = .ok q.2 := by decide +kernel
theorem kDc_133 : ∀ q ∈ kCode_133, decode prog_9_method_41_code q.1 = .ok q.2 := by decide +kernel
theorem kDc_134 : ∀ q ∈ kCode_134, decode prog_9_method_42_code q.1 = .ok q.2 := by decide +kernel
theorem kDc_135 : ∀ q ∈ kCode_135, decode prog_9_method_43_code q.1 = .ok q.2 := by decide +kernel
theorem kDc_136 : ∀ q ∈ kCode_136, decode prog_9_method_44_code q.1 = .ok q.2 := by decide +kernel
theorem kDc_137 : ∀ q ∈ kCode_137, decode prog_9_method_45_code q.1 = .ok q.2 := by decide +kernel
theorem kDc_138 : ∀ q ∈ kCode_138, decode prog_9_method_46_code q.1 = .ok q.2 := by decide +kernel
theorem kDc_139 : ∀ q ∈ kCode_139, decode prog_9_method_47_code q.1 = .ok q.2 := by decide +kernel
theorem kDc_140 : ∀ q ∈ kCode_140, decode prog_9_method_48_code q.1 = .ok q.2 := by decide +kernel
theorem kDc_141 : ∀ q ∈ kCode_141, decode prog_9_method_49_code q.1 = .ok q.2 := by decide +kernel
theorem kDc_142 : ∀ q ∈ kCode_142, decode prog_9_method_50_code q.1 = .ok q.2 := by decide +kernel
theorem kDc_143 : ∀ q ∈ kCode_143, decode method_3_code q.1 = .ok q.2 := by decide +kernel
theorem kDc_144 : ∀ q ∈ kCode_144, decode method_4_code q.1 = .ok q.2 := by decide +kernel
theorem kDc_145 : ∀ q ∈ kCode_145, decode method_5_code q.1 = .ok q.2 := by decide +kernel
theorem kDc_146 : ∀ q ∈ kCode_146, decode method_6_code q.1 = .ok q.2 := by decide +kernel
theorem kDc_147 : ∀ q ∈ kCode_147, decode method_7_code q.1 = .ok q.2 := by decide +kernel
theorem kDc_148 : ∀ q ∈ kCode_148, decode method_8_code q.1 = .ok q.2 := by decide +kernel
theorem kDc_149 : ∀ q ∈ kCode_149, decode method_9_code q.1 = .ok q.2 := by decide +kernel
theorem kDc_150 : ∀ q ∈ kCode_150, decode method_10_code q.1 = .ok q.2 := by decide +kernel
theorem kDc_151 : ∀ q ∈ kCode_151, decode method_11_code q.1 = .ok q.2 := by decide +kernel
theorem kDc_152 : ∀ q ∈ kCode_152, decode method_12_code q.1 = .ok q.2 := by decide +kernel
theorem kDc_153 : ∀ q ∈ kCode_153, decode method_13_code q.1 = .ok q.2 := by decide +kernel
theorem kDc_154 : ∀ q ∈ kCode_154, decode method_14_code q.1 = .ok q.2 := by decide +kernel
theorem kDc_155 : ∀ q ∈ kCode_155, decode method_15_code q.1 = .ok q.2 := by decide +kernel
theorem kDc_156 : ∀ q ∈ kCode_156, decode code q.1 = .ok q.2 := by
  intro q hq
  unfold kCode_156 at hq
  rcases List.mem_append.mp hq with hq | hq
  · exact kDc_156_0 q hq
  rcases List.mem_append.mp hq with hq | hq
  · exact kDc_156_1 q hq
  rcases List.mem_append.mp hq with hq | hq
  · exact kDc_156_2 q hq
  rcases List.mem_append.mp hq with hq | hq
  · exact kDc_156_3 q hq
  rcases List.mem_append.mp hq with hq | hq
  · exact kDc_156_4 q hq
  rcases List.mem_append.mp hq with hq | hq
  · exact kDc_156_5 q hq
  rcases List.mem_append.mp hq with hq | hq
  · exact kDc_156_6 q hq
  exact kDc_156_7 q hq
theorem kDc_157 : ∀ q ∈ kCode_157, decode prog_13_method_47_code q.1 = .ok q.2 := by decide +kernel
theorem kDc_158 : ∀ q ∈ kCode_158, decode prog_13_method_50_code q.1 = .ok q.2 := by decide +kernel
def kAll2 : List ByteArray → List (List (Nat × Instr × Nat)) → Prop
  | b :: bs, c :: cs => (∀ q ∈ c, decode b q.1 = .ok q.2) ∧ kAll2 bs cs
  | _, [] => True
  | [], _ :: _ => False
theorem kAll2_ok : kAll2 kByL kCodes := ⟨kDc_0, kDc_1, kDc_2, kDc_3, kDc_4, kDc_5, kDc_6, kDc_7, kDc_8, kDc_9, kDc_10, kDc_11, kDc_12, kDc_13, kDc_14, kDc_15, kDc_16, kDc_17, kDc_18, kDc_19, kDc_20, kDc_21, kDc_22, kDc_23, kDc_24, kDc_25, kDc_26, kDc_27, kDc_28, kDc_29, kDc_30, kDc_31, kDc_32, kDc_33, kDc_34, kDc_35, kDc_36, kDc_37, kDc_38, kDc_39, kDc_40, kDc_41, kDc_42, kDc_43, kDc_44, kDc_45, kDc_46, kDc_47, kDc_48, kDc_49, kDc_50, kDc_51, kDc_52, kDc_53, kDc_54, kDc_55, kDc_56, kDc_57, kDc_58, kDc_59, kDc_60, kDc_61, kDc_62, kDc_63, kDc_64, kDc_65, kDc_66, kDc_67, kDc_68, kDc_69, kDc_70, kDc_71, kDc_72, kDc_73, kDc_74, kDc_75, kDc_76, kDc_77, kDc_78, kDc_79, kDc_80, kDc_81, kDc_82, kDc_83, kDc_84, kDc_85, kDc_86, kDc_87, kDc_88, kDc_89, kDc_90, kDc_91, kDc_92, kDc_93, kDc_94, kDc_95, kDc_96, kDc_97, kDc_98, kDc_99, kDc_100, kDc_101, kDc_102, kDc_103, kDc_104, kDc_105, kDc_106, kDc_107, kDc_108, kDc_109, kDc_110, kDc_111, kDc_112, kDc_113, kDc_114, kDc_115, kDc_116, kDc_117, kDc_118, kDc_119, kDc_120, kDc_121, kDc_122, kDc_123, kDc_124, kDc_125, kDc_126, kDc_127, kDc_128, kDc_129, kDc_130, kDc_131, kDc_132, kDc_133, kDc_134, kDc_135, kDc_136, kDc_137, kDc_138, kDc_139, kDc_140, kDc_141, kDc_142, kDc_143, kDc_144, kDc_145, kDc_146, kDc_147, kDc_148, kDc_149, kDc_150, kDc_151, kDc_152, kDc_153, kDc_154, kDc_155, kDc_156, kDc_157, kDc_158, trivial⟩
theorem kAll2_at : ∀ (bs : List ByteArray) (cs : List (List (Nat × Instr × Nat))), kAll2 bs cs → ∀ (y : Nat) (q : Nat × Instr × Nat), q ∈ cs.getD y [] → decode (bs.getD y ⟨#[]⟩) q.1 = .ok q.2
  | b :: bs, c :: cs, h, 0, q, hq => h.1 q hq
  | b :: bs, c :: cs, h, y + 1, q, hq => kAll2_at bs cs h.2 y q hq
  | bs, [], _, y, q, hq => by simp at hq
  | [], c :: cs, h, _, _, _ => h.elim
theorem kDec {y pc : Nat} {i : Instr} {n : Nat} (h : kI y pc = some (i, n)) : decode (kBytes y) pc = .ok (i, n) := by
  unfold kI at h
  cases hf : (kCodes.getD y []).find? (fun q => q.1 == pc) with
  | none => rw [hf] at h; cases h
  | some q =>
    rw [hf] at h
    have hm := List.mem_of_find?_eq_some hf
    have hp := List.find?_some hf
    have hpc : q.1 = pc := by simpa using hp
    have h2 : q.2 = (i, n) := Option.some.inj h
    have := kAll2_at kByL kCodes kAll2_ok y q hm
    rw [hpc, h2] at this
    exact this
