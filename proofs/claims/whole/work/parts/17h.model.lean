-- 126: RDModel scan
noncomputable def B_126_113 (T : kT) (a1 : Int32) (a4 : Int32) (a5 : Int32) (M : kM) : Option ((Int32 × kM) ⊕ (Int32 × kM)) :=
  kGx a4 6 (if (gp M (lMa 2) a4.toNatClampNeg) ≤ a5 then (kGx a1 60 (kGx a1 60 (kBd (F_124 T a1 1 (sp M (lMa 38) a1.toNatClampNeg ((gp M (lMa 38) a1.toNatClampNeg) + 1))) (fun r17 M18 => some (.inr ((1, M18))))))) else (kGx a1 60 (kBd (F_99 T a4 (gp M (lMa 38) a1.toNatClampNeg) a5 M) (fun r21 M22 => kGx r21 1440 (kGx ((a1 * 12) + a5) 720 (some (.inl ((a5 + 1), sp M22 (lMa 28) ((a1 * 12) + a5).toNatClampNeg (gp M22 (lMa 5) r21.toNatClampNeg)))))))))
noncomputable def F_126_113 (T : kT) (a1 : Int32) (a4 : Int32) (a5 : Int32) (M : kM) : Option (Int32 × kM) :=
  kWh (fun w : (Int32 × kM) => B_126_113 T a1 a4 w.1 w.2) (a5, M)
theorem F_126_113_eq (T : kT) (a1 : Int32) (a4 : Int32) (a5 : Int32) (M : kM) : F_126_113 T a1 a4 a5 M = kAg (B_126_113 T a1 a4 a5 M) (fun w => F_126_113 T a1 a4 w.1 w.2) := by
  unfold F_126_113
  rw [kWh_eq]
set_option maxHeartbeats 1000000 in
theorem W_126_113 {G : kG} {d : Nat} {A : kLb → Nat} {C : kCl} {P : kO → kH → Prop} {T : kT} {M : kM} {h : kH} {a1 : Int32} {a4 : Int32} {a5 : Int32} {b2 b3 : Option Value} {z : (Int32 × kM)} (hC : C = kRun G (d + 1)) (R : kRl A T M h) (K : (fun z : (Int32 × kM) => ∀ h1, kRl A T z.2 h1 → P (.inl (some (.int z.1))) h1) z) (hF : F_126_113 T a1 a4 a5 M = some z) : kWP G 126 C P 113 [some (.ref (A lMo)), some (.int a1), b2, b3, some (.int a4), some (.int a5)] [] h 0 0 := by
  refine kWh_ind (P := (fun w : (Int32 × kM) => ∀ (h : kH) (b2 b3 : Option Value), kRl A T w.2 h → kWP G 126 C P 113 [some (.ref (A lMo)), some (.int a1), b2, b3, some (.int a4), some (.int w.1)] [] h 0 0)) (Q := (fun z : (Int32 × kM) => ∀ h1, kRl A T z.2 h1 → P (.inl (some (.int z.1))) h1)) hF K ?_ h _ _ R
  clear hF K R
  intro w z hF K h b2 b3 R
  obtain ⟨a5, M⟩ := w
  change B_126_113 T a1 a4 a5 M = some z at hF
  change kWP G 126 C P 113 [some (.ref (A lMo)), some (.int a1), b2, b3, some (.int a4), some (.int a5)] [] h 0 0
  unfold B_126_113 at hF
  refine k_iload (pc := 113) i_126_113 rfl ?_
  refine k_aload_n (pc := 115) i_126_115 rfl rfl ?_
  refine k_getf (pc := 116) i_126_116 f_7_7 (rd_Mo R) rfl ?_
  refine k_iload (pc := 119) i_126_119 rfl ?_
  obtain ⟨g12, hF⟩ := kGx_el hF
  refine k_iald (pc := 121) i_126_121 (rd_Ma_2 R) g12 ?_
  refine k_icmp_ge (pc := 122) (tgt := 161) i_126_122 (by decide) (fun c13 => ?_) (fun c13 => ?_)
  · rw [if_pos c13] at hF
    refine k_aload_n (pc := 161) i_126_161 rfl rfl ?_
    refine k_getf (pc := 162) i_126_162 f_7_82 (rd_Mo R) rfl ?_
    refine k_iload_n (pc := 165) i_126_165 rfl ?_
    refine k_dup2 (pc := 166) i_126_166 rfl rfl ?_
    obtain ⟨g14, hF⟩ := kGx_el hF
    refine k_iald (pc := 167) i_126_167 (rd_Ma_38 R) g14 ?_
    refine k_iconst (pc := 168) (v := 1) i_126_168 (by decide) ?_
    refine k_iadd (pc := 169) i_126_169 ?_
    obtain ⟨g15, hF⟩ := kGx_el hF
    refine k_iast (pc := 170) i_126_170 (rd_Ma_38 R) g15 (fun h e16 => ?_)
    replace R := kRl_sp (l := (lMa 38)) (k := a1.toNatClampNeg) (v := (gp M (lMa 38) a1.toNatClampNeg) + 1) R rfl e16
    clear e16
    refine k_aload_n (pc := 171) i_126_171 rfl rfl ?_
    refine k_iload_n (pc := 172) i_126_172 rfl ?_
    refine k_iconst (pc := 173) (v := 1) i_126_173 (by decide) ?_
    obtain ⟨r17, M18, q19, hF⟩ := kBd_el hF
    refine kcv_V (pc := 174) (As := [.ref (A lMo), .int a1, .int 1]) (st := []) (A := A) (T := T) (r := r17) (M1 := M18) i_126_174 m_7_190 rfl rfl rfl rfl (rd_Mo R) rfl (Nat.le_of_ble_eq_true rfl) (hC ▸ D_124 R q19) (fun h R => ?_)
    refine k_iconst (pc := 177) (v := 1) i_126_177 (by decide) ?_
    obtain rfl := Option.some.inj hF
    exact k_ireturn (pc := 178) i_126_178 rfl rfl (K _ R)
  · rw [if_neg c13] at hF
    refine k_aload_n (pc := 125) i_126_125 rfl rfl ?_
    refine k_getf (pc := 126) i_126_126 f_7_64 (rd_Mo R) rfl ?_
    refine k_iload_n (pc := 129) i_126_129 rfl ?_
    refine k_bipush (pc := 130) (v := 12) i_126_130 (by decide) ?_
    refine k_imul (pc := 132) i_126_132 ?_
    refine k_iload (pc := 133) i_126_133 rfl ?_
    refine k_iadd (pc := 135) i_126_135 ?_
    refine k_aload_n (pc := 136) i_126_136 rfl rfl ?_
    refine k_getf (pc := 137) i_126_137 f_7_20 (rd_Mo R) rfl ?_
    refine k_iload (pc := 140) i_126_140 rfl ?_
    refine k_aload_n (pc := 142) i_126_142 rfl rfl ?_
    refine k_getf (pc := 143) i_126_143 f_7_82 (rd_Mo R) rfl ?_
    refine k_iload_n (pc := 146) i_126_146 rfl ?_
    obtain ⟨g20, hF⟩ := kGx_el hF
    refine k_iald (pc := 147) i_126_147 (rd_Ma_38 R) g20 ?_
    refine k_iload (pc := 148) i_126_148 rfl ?_
    obtain ⟨r21, M22, q23, hF⟩ := kBd_el hF
    refine kcs_I (pc := 150) (As := [.int a4, .int (gp M (lMa 38) a1.toNatClampNeg), .int a5]) (st := [.ref (A (lMa 5)), .int ((a1 * 12) + a5), .ref (A (lMa 28))]) (A := A) (T := T) (r := r21) (M1 := M22) i_126_150 m_7_120 rfl rfl rfl (Nat.le_of_ble_eq_true rfl) (hC ▸ D_99 R q23) (fun h R => ?_)
    obtain ⟨g24, hF⟩ := kGx_el hF
    refine k_iald (pc := 153) i_126_153 (rd_Ma_5 R) g24 ?_
    obtain ⟨g25, hF⟩ := kGx_el hF
    refine k_iast (pc := 154) i_126_154 (rd_Ma_28 R) g25 (fun h e26 => ?_)
    replace R := kRl_sp (l := (lMa 28)) (k := ((a1 * 12) + a5).toNatClampNeg) (v := gp M22 (lMa 5) r21.toNatClampNeg) R rfl e26
    clear e26
    refine k_iinc (pc := 155) (v := a5 + 1) (lo2 := [some (.ref (A lMo)), some (.int a1), b2, b3, some (.int a4), some (.int (a5 + 1))]) i_126_155 rfl rfl rfl ?_
    refine k_goto (pc := 158) (tgt := 113) i_126_158 (by decide) ?_
    obtain rfl := Option.some.inj hF
    exact K _ _ _ R
noncomputable def F_126_67 (T : kT) (a1 : Int32) (a4 : Int32) (M : kM) : Option (Int32 × kM) :=
  kGx a1 60 (kGx a4 6 (if (gp M (lMa 38) a1.toNatClampNeg) = (gp M (lMa 4) a4.toNatClampNeg) then (kBd (F_124 T a1 0 M) (fun r12 M13 => some (1, M13))) else (if (gp M lMo 25) = 0 then (some (0, M)) else (F_126_113 T a1 a4 0 (sp M lMo 25 ((gp M lMo 25) - 1))))))
set_option maxHeartbeats 1000000 in
theorem W_126_67 {G : kG} {d : Nat} {A : kLb → Nat} {C : kCl} {P : kO → kH → Prop} {T : kT} {M : kM} {h : kH} {a1 : Int32} {a4 : Int32} {b2 b3 b5 : Option Value} {z : (Int32 × kM)} (hC : C = kRun G (d + 1)) (R : kRl A T M h) (K : (fun z : (Int32 × kM) => ∀ h1, kRl A T z.2 h1 → P (.inl (some (.int z.1))) h1) z) (hF : F_126_67 T a1 a4 M = some z) : kWP G 126 C P 67 [some (.ref (A lMo)), some (.int a1), b2, b3, some (.int a4), b5] [] h 0 0 := by
  unfold F_126_67 at hF
  refine k_aload_n (pc := 67) i_126_67 rfl rfl ?_
  refine k_getf (pc := 68) i_126_68 f_7_82 (rd_Mo R) rfl ?_
  refine k_iload_n (pc := 71) i_126_71 rfl ?_
  obtain ⟨g7, hF⟩ := kGx_el hF
  refine k_iald (pc := 72) i_126_72 (rd_Ma_38 R) g7 ?_
  refine k_aload_n (pc := 73) i_126_73 rfl rfl ?_
  refine k_getf (pc := 74) i_126_74 f_7_17 (rd_Mo R) rfl ?_
  refine k_iload (pc := 77) i_126_77 rfl ?_
  obtain ⟨g8, hF⟩ := kGx_el hF
  refine k_iald (pc := 79) i_126_79 (rd_Ma_4 R) g8 ?_
  refine k_icmp_ne (pc := 80) (tgt := 91) i_126_80 (by decide) (fun c9 => ?_) (fun c9 => ?_)
  · rw [if_neg c9] at hF
    refine k_aload_n (pc := 91) i_126_91 rfl rfl ?_
    refine k_getf (pc := 92) i_126_92 f_7_194 (rd_Mo R) rfl ?_
    refine k_if_ne (pc := 95) (tgt := 100) i_126_95 (by decide) (fun c10 => ?_) (fun c10 => ?_)
    · rw [if_neg c10] at hF
      refine k_aload_n (pc := 100) i_126_100 rfl rfl ?_
      refine k_dup (pc := 101) i_126_101 rfl ?_
      refine k_getf (pc := 102) i_126_102 f_7_194 (rd_Mo R) rfl ?_
      refine k_iconst (pc := 105) (v := 1) i_126_105 (by decide) ?_
      refine k_isub (pc := 106) i_126_106 ?_
      refine k_putf (pc := 107) i_126_107 f_7_194 (rd_Mo R) (by decide +kernel) (Nat.le_of_ble_eq_true rfl) rfl rfl rfl (fun h e11 => ?_)
      replace R := kRl_sp (l := lMo) (k := 25) (v := (gp M lMo 25) - 1) R rfl e11
      clear e11
      refine k_iconst (pc := 110) (v := 0) i_126_110 (by decide) ?_
      refine k_istore (pc := 111) (lo2 := [some (.ref (A lMo)), some (.int a1), b2, b3, some (.int a4), some (.int 0)]) i_126_111 (Nat.le_of_ble_eq_true rfl) rfl ?_
      exact W_126_113 (d := d) hC R K hF
    · rw [if_pos c10] at hF
      refine k_iconst (pc := 98) (v := 0) i_126_98 (by decide) ?_
      obtain rfl := Option.some.inj hF
      exact k_ireturn (pc := 99) i_126_99 rfl rfl (K _ R)
  · rw [if_pos c9] at hF
    refine k_aload_n (pc := 83) i_126_83 rfl rfl ?_
    refine k_iload_n (pc := 84) i_126_84 rfl ?_
    refine k_iconst (pc := 85) (v := 0) i_126_85 (by decide) ?_
    obtain ⟨r12, M13, q14, hF⟩ := kBd_el hF
    refine kcv_V (pc := 86) (As := [.ref (A lMo), .int a1, .int 0]) (st := []) (A := A) (T := T) (r := r12) (M1 := M13) i_126_86 m_7_190 rfl rfl rfl rfl (rd_Mo R) rfl (Nat.le_of_ble_eq_true rfl) (hC ▸ D_124 R q14) (fun h R => ?_)
    refine k_iconst (pc := 89) (v := 1) i_126_89 (by decide) ?_
    obtain rfl := Option.some.inj hF
    exact k_ireturn (pc := 90) i_126_90 rfl rfl (K _ R)
noncomputable def B_126_8 (T : kT) (a1 : Int32) (a3 : Int32) (a4 : Int32) (M : kM) : Option ((kM) ⊕ (Int32 × kM)) :=
  kGx a1 60 (kGx a4 6 (if (gp M (lMa 4) a4.toNatClampNeg) ≤ (gp M (lMa 38) a1.toNatClampNeg) then (kLf (F_126_67 T a1 a4 M)) else (if a3 < 0 then (kLf (F_126_67 T a1 a4 M)) else (kGx a1 60 (kBd (F_99 T a4 (gp M (lMa 38) a1.toNatClampNeg) a3 M) (fun r9 M10 => kGx r9 1440 (kBd (F_117 T a1 3 M10) (fun r13 M14 => if (gp M10 (lMa 5) r9.toNatClampNeg) = r13 then (kLf (F_126_67 T a1 a4 M14)) else (kGx a1 60 (kGx a1 60 (some (.inl (sp M14 (lMa 38) a1.toNatClampNeg ((gp M14 (lMa 38) a1.toNatClampNeg) + 1))))))))))))))
noncomputable def F_126_8 (T : kT) (a1 : Int32) (a3 : Int32) (a4 : Int32) (M : kM) : Option (Int32 × kM) :=
  kWh (fun w : (kM) => B_126_8 T a1 a3 a4 w) (M)
theorem F_126_8_eq (T : kT) (a1 : Int32) (a3 : Int32) (a4 : Int32) (M : kM) : F_126_8 T a1 a3 a4 M = kAg (B_126_8 T a1 a3 a4 M) (fun w => F_126_8 T a1 a3 a4 w) := by
  unfold F_126_8
  rw [kWh_eq]
set_option maxHeartbeats 1000000 in
theorem W_126_8 {G : kG} {d : Nat} {A : kLb → Nat} {C : kCl} {P : kO → kH → Prop} {T : kT} {M : kM} {h : kH} {a1 : Int32} {a3 : Int32} {a4 : Int32} {b2 b5 : Option Value} {z : (Int32 × kM)} (hC : C = kRun G (d + 1)) (R : kRl A T M h) (K : (fun z : (Int32 × kM) => ∀ h1, kRl A T z.2 h1 → P (.inl (some (.int z.1))) h1) z) (hF : F_126_8 T a1 a3 a4 M = some z) : kWP G 126 C P 8 [some (.ref (A lMo)), some (.int a1), b2, some (.int a3), some (.int a4), b5] [] h 0 0 := by
  refine kWh_ind (P := (fun w : (kM) => ∀ (h : kH) (b2 b5 : Option Value), kRl A T w h → kWP G 126 C P 8 [some (.ref (A lMo)), some (.int a1), b2, some (.int a3), some (.int a4), b5] [] h 0 0)) (Q := (fun z : (Int32 × kM) => ∀ h1, kRl A T z.2 h1 → P (.inl (some (.int z.1))) h1)) hF K ?_ h _ _ R
  clear hF K R
  intro M z hF K h b2 b5 R
  skip
  change B_126_8 T a1 a3 a4 M = some z at hF
  change kWP G 126 C P 8 [some (.ref (A lMo)), some (.int a1), b2, some (.int a3), some (.int a4), b5] [] h 0 0
  unfold B_126_8 at hF
  refine k_aload_n (pc := 8) i_126_8 rfl rfl ?_
  refine k_getf (pc := 9) i_126_9 f_7_82 (rd_Mo R) rfl ?_
  refine k_iload_n (pc := 12) i_126_12 rfl ?_
  obtain ⟨g4, hF⟩ := kGx_el hF
  refine k_iald (pc := 13) i_126_13 (rd_Ma_38 R) g4 ?_
  refine k_aload_n (pc := 14) i_126_14 rfl rfl ?_
  refine k_getf (pc := 15) i_126_15 f_7_17 (rd_Mo R) rfl ?_
  refine k_iload (pc := 18) i_126_18 rfl ?_
  obtain ⟨g5, hF⟩ := kGx_el hF
  refine k_iald (pc := 20) i_126_20 (rd_Ma_4 R) g5 ?_
  refine k_icmp_ge (pc := 21) (tgt := 67) i_126_21 (by decide) (fun c6 => ?_) (fun c6 => ?_)
  · rw [if_pos c6] at hF
    obtain ⟨z, hG, rfl⟩ := kLf_el hF
    replace hF := hG
    clear hG
    exact W_126_67 (d := d) hC R K hF
  · rw [if_neg c6] at hF
    refine k_iload_n (pc := 24) i_126_24 rfl ?_
    refine k_if_lt (pc := 25) (tgt := 67) i_126_25 (by decide) (fun c7 => ?_) (fun c7 => ?_)
    · rw [if_pos c7] at hF
      obtain ⟨z, hG, rfl⟩ := kLf_el hF
      replace hF := hG
      clear hG
      exact W_126_67 (d := d) hC R K hF
    · rw [if_neg c7] at hF
      refine k_aload_n (pc := 28) i_126_28 rfl rfl ?_
      refine k_getf (pc := 29) i_126_29 f_7_20 (rd_Mo R) rfl ?_
      refine k_iload (pc := 32) i_126_32 rfl ?_
      refine k_aload_n (pc := 34) i_126_34 rfl rfl ?_
      refine k_getf (pc := 35) i_126_35 f_7_82 (rd_Mo R) rfl ?_
      refine k_iload_n (pc := 38) i_126_38 rfl ?_
      obtain ⟨g8, hF⟩ := kGx_el hF
      refine k_iald (pc := 39) i_126_39 (rd_Ma_38 R) g8 ?_
      refine k_iload_n (pc := 40) i_126_40 rfl ?_
      obtain ⟨r9, M10, q11, hF⟩ := kBd_el hF
      refine kcs_I (pc := 41) (As := [.int a4, .int (gp M (lMa 38) a1.toNatClampNeg), .int a3]) (st := [.ref (A (lMa 5))]) (A := A) (T := T) (r := r9) (M1 := M10) i_126_41 m_7_120 rfl rfl rfl (Nat.le_of_ble_eq_true rfl) (hC ▸ D_99 R q11) (fun h R => ?_)
      obtain ⟨g12, hF⟩ := kGx_el hF
      refine k_iald (pc := 44) i_126_44 (rd_Ma_5 R) g12 ?_
      refine k_aload_n (pc := 45) i_126_45 rfl rfl ?_
      refine k_iload_n (pc := 46) i_126_46 rfl ?_
      refine k_iconst (pc := 47) (v := 3) i_126_47 (by decide) ?_
      obtain ⟨r13, M14, q15, hF⟩ := kBd_el hF
      refine kcv_I (pc := 48) (As := [.ref (A lMo), .int a1, .int 3]) (st := [.int (gp M10 (lMa 5) r9.toNatClampNeg)]) (A := A) (T := T) (r := r13) (M1 := M14) i_126_48 m_7_166 rfl rfl rfl rfl (rd_Mo R) rfl (Nat.le_of_ble_eq_true rfl) (hC ▸ D_117 R q15) (fun h R => ?_)
      refine k_icmp_eq (pc := 51) (tgt := 67) i_126_51 (by decide) (fun c16 => ?_) (fun c16 => ?_)
      · rw [if_pos c16] at hF
        obtain ⟨z, hG, rfl⟩ := kLf_el hF
        replace hF := hG
        clear hG
        exact W_126_67 (d := d) hC R K hF
      · rw [if_neg c16] at hF
        refine k_aload_n (pc := 54) i_126_54 rfl rfl ?_
        refine k_getf (pc := 55) i_126_55 f_7_82 (rd_Mo R) rfl ?_
        refine k_iload_n (pc := 58) i_126_58 rfl ?_
        refine k_dup2 (pc := 59) i_126_59 rfl rfl ?_
        obtain ⟨g17, hF⟩ := kGx_el hF
        refine k_iald (pc := 60) i_126_60 (rd_Ma_38 R) g17 ?_
        refine k_iconst (pc := 61) (v := 1) i_126_61 (by decide) ?_
        refine k_iadd (pc := 62) i_126_62 ?_
        obtain ⟨g18, hF⟩ := kGx_el hF
        refine k_iast (pc := 63) i_126_63 (rd_Ma_38 R) g18 (fun h e19 => ?_)
        replace R := kRl_sp (l := (lMa 38)) (k := a1.toNatClampNeg) (v := (gp M14 (lMa 38) a1.toNatClampNeg) + 1) R rfl e19
        clear e19
        refine k_goto (pc := 64) (tgt := 8) i_126_64 (by decide) ?_
        obtain rfl := Option.some.inj hF
        exact K _ _ _ R
noncomputable def F_126 (T : kT) (a1 : Int32) (a2 : Int32) (a3 : Int32) (M : kM) : Option (Int32 × kM) :=
  kBd (F_117 T a2 1 M) (fun r1 M2 => F_126_8 T a1 a3 r1 M2)
set_option maxHeartbeats 1000000 in
theorem D_126 {G : kG} {d : Nat} {A : kLb → Nat} {T : kT} {M : kM} {h : kH} {a1 : Int32} {a2 : Int32} {a3 : Int32} {z : (Int32 × kM)} (R : kRl A T M h) (hF : F_126 T a1 a2 a3 M = some z) : kRun G (d + 2) 126 [.ref (A lMo), .int a1, .int a2, .int a3] h 0 0 (kPI A T z) := by
  refine ⟨⟨rfl, Nat.le_of_ble_eq_true rfl⟩, ?_⟩
  show kWP _ _ (kRun G (d + 1)) _ 0 [some (.ref (A lMo)), some (.int a1), some (.int a2), some (.int a3), none, none] [] _ _ _
  have K : (fun z : (Int32 × kM) => ∀ h1, kRl A T z.2 h1 → kPI A T z (.inl (some (.int z.1))) h1) z := fun _ q => ⟨rfl, q⟩
  unfold F_126 at hF
  refine k_aload_n (pc := 0) i_126_0 rfl rfl ?_
  refine k_iload_n (pc := 1) i_126_1 rfl ?_
  refine k_iconst (pc := 2) (v := 1) i_126_2 (by decide) ?_
  obtain ⟨r1, M2, q3, hF⟩ := kBd_el hF
  refine kcv_I (pc := 3) (As := [.ref (A lMo), .int a2, .int 1]) (st := []) (A := A) (T := T) (r := r1) (M1 := M2) i_126_3 m_7_166 rfl rfl rfl rfl (rd_Mo R) rfl (Nat.le_of_ble_eq_true rfl) (D_117 R q3) (fun h R => ?_)
  refine k_istore (pc := 6) (lo2 := [some (.ref (A lMo)), some (.int a1), some (.int a2), some (.int a3), some (.int r1), none]) i_126_6 (Nat.le_of_ble_eq_true rfl) rfl ?_
  exact W_126_8 (d := d) rfl R K hF
-- 127: RDModel next
noncomputable def F_127_76 (T : kT) (a1 : Int32) (a2 : Int32) (M : kM) : Option (Unit × kM) :=
  kGx a1 60 (kGx a1 60 (kBd (F_124 T a1 a2 (sp M (lMa 38) a1.toNatClampNeg ((gp M (lMa 38) a1.toNatClampNeg) + 1))) (fun r9 M10 => some ((), M10))))
set_option maxHeartbeats 1000000 in
theorem W_127_76 {G : kG} {d : Nat} {A : kLb → Nat} {C : kCl} {P : kO → kH → Prop} {T : kT} {M : kM} {h : kH} {a1 : Int32} {a2 : Int32} {b3 : Option Value} {z : (Unit × kM)} (hC : C = kRun G (d + 1)) (R : kRl A T M h) (K : (fun z : (Unit × kM) => ∀ h1, kRl A T z.2 h1 → P (.inl none) h1) z) (hF : F_127_76 T a1 a2 M = some z) : kWP G 127 C P 76 [some (.ref (A lMo)), some (.int a1), some (.int a2), b3] [] h 0 0 := by
  unfold F_127_76 at hF
  refine k_aload_n (pc := 76) i_127_76 rfl rfl ?_
  refine k_getf (pc := 77) i_127_77 f_7_82 (rd_Mo R) rfl ?_
  refine k_iload_n (pc := 80) i_127_80 rfl ?_
  refine k_dup2 (pc := 81) i_127_81 rfl rfl ?_
  obtain ⟨g6, hF⟩ := kGx_el hF
  refine k_iald (pc := 82) i_127_82 (rd_Ma_38 R) g6 ?_
  refine k_iconst (pc := 83) (v := 1) i_127_83 (by decide) ?_
  refine k_iadd (pc := 84) i_127_84 ?_
  obtain ⟨g7, hF⟩ := kGx_el hF
  refine k_iast (pc := 85) i_127_85 (rd_Ma_38 R) g7 (fun h e8 => ?_)
  replace R := kRl_sp (l := (lMa 38)) (k := a1.toNatClampNeg) (v := (gp M (lMa 38) a1.toNatClampNeg) + 1) R rfl e8
  clear e8
  refine k_aload_n (pc := 86) i_127_86 rfl rfl ?_
  refine k_iload_n (pc := 87) i_127_87 rfl ?_
  refine k_iload_n (pc := 88) i_127_88 rfl ?_
  obtain ⟨r9, M10, q11, hF⟩ := kBd_el hF
  refine kcv_V (pc := 89) (As := [.ref (A lMo), .int a1, .int a2]) (st := []) (A := A) (T := T) (r := r9) (M1 := M10) i_127_89 m_7_190 rfl rfl rfl rfl (rd_Mo R) rfl (Nat.le_of_ble_eq_true rfl) (hC ▸ D_124 R q11) (fun h R => ?_)
  obtain rfl := Option.some.inj hF
  exact k_return (pc := 92) i_127_92 rfl (K _ R)
noncomputable def B_127_23 (T : kT) (a1 : Int32) (a2 : Int32) (a3 : Int32) (M : kM) : Option ((Int32 × kM) ⊕ (Unit × kM)) :=
  kGx a1 60 (if (gp M (lMa 21) a1.toNatClampNeg) ≤ a3 then (kLf (F_127_76 T a1 a2 M)) else (if a2 = 0 then (kLf (F_127_76 T a1 a2 M)) else (kGx a1 60 (kGx ((((a1 * 150) + (gp M (lMa 38) a1.toNatClampNeg)) * 12) + a3) 108000 (kGx ((a1 * 12) + a3) 720 (some (.inl ((a3 + 1), sp M (lMa 28) ((a1 * 12) + a3).toNatClampNeg (gp M (lMa 27) ((((a1 * 150) + (gp M (lMa 38) a1.toNatClampNeg)) * 12) + a3).toNatClampNeg)))))))))
noncomputable def F_127_23 (T : kT) (a1 : Int32) (a2 : Int32) (a3 : Int32) (M : kM) : Option (Unit × kM) :=
  kWh (fun w : (Int32 × kM) => B_127_23 T a1 a2 w.1 w.2) (a3, M)
theorem F_127_23_eq (T : kT) (a1 : Int32) (a2 : Int32) (a3 : Int32) (M : kM) : F_127_23 T a1 a2 a3 M = kAg (B_127_23 T a1 a2 a3 M) (fun w => F_127_23 T a1 a2 w.1 w.2) := by
  unfold F_127_23
  rw [kWh_eq]
set_option maxHeartbeats 1000000 in
theorem W_127_23 {G : kG} {d : Nat} {A : kLb → Nat} {C : kCl} {P : kO → kH → Prop} {T : kT} {M : kM} {h : kH} {a1 : Int32} {a2 : Int32} {a3 : Int32} {z : (Unit × kM)} (hC : C = kRun G (d + 1)) (R : kRl A T M h) (K : (fun z : (Unit × kM) => ∀ h1, kRl A T z.2 h1 → P (.inl none) h1) z) (hF : F_127_23 T a1 a2 a3 M = some z) : kWP G 127 C P 23 [some (.ref (A lMo)), some (.int a1), some (.int a2), some (.int a3)] [] h 0 0 := by
  refine kWh_ind (P := (fun w : (Int32 × kM) => ∀ (h : kH), kRl A T w.2 h → kWP G 127 C P 23 [some (.ref (A lMo)), some (.int a1), some (.int a2), some (.int w.1)] [] h 0 0)) (Q := (fun z : (Unit × kM) => ∀ h1, kRl A T z.2 h1 → P (.inl none) h1)) hF K ?_ h R
  clear hF K R
  intro w z hF K h R
  obtain ⟨a3, M⟩ := w
  change B_127_23 T a1 a2 a3 M = some z at hF
  change kWP G 127 C P 23 [some (.ref (A lMo)), some (.int a1), some (.int a2), some (.int a3)] [] h 0 0
  unfold B_127_23 at hF
  refine k_iload_n (pc := 23) i_127_23 rfl ?_
  refine k_aload_n (pc := 24) i_127_24 rfl rfl ?_
  refine k_getf (pc := 25) i_127_25 f_7_54 (rd_Mo R) rfl ?_
  refine k_iload_n (pc := 28) i_127_28 rfl ?_
  obtain ⟨g4, hF⟩ := kGx_el hF
  refine k_iald (pc := 29) i_127_29 (rd_Ma_21 R) g4 ?_
  refine k_icmp_ge (pc := 30) (tgt := 76) i_127_30 (by decide) (fun c5 => ?_) (fun c5 => ?_)
  · rw [if_pos c5] at hF
    obtain ⟨z, hG, rfl⟩ := kLf_el hF
    replace hF := hG
    clear hG
    exact W_127_76 (d := d) hC R K hF
  · rw [if_neg c5] at hF
    refine k_iload_n (pc := 33) i_127_33 rfl ?_
    refine k_if_eq (pc := 34) (tgt := 76) i_127_34 (by decide) (fun c6 => ?_) (fun c6 => ?_)
    · rw [if_pos c6] at hF
      obtain ⟨z, hG, rfl⟩ := kLf_el hF
      replace hF := hG
      clear hG
      exact W_127_76 (d := d) hC R K hF
    · rw [if_neg c6] at hF
      refine k_aload_n (pc := 37) i_127_37 rfl rfl ?_
      refine k_getf (pc := 38) i_127_38 f_7_64 (rd_Mo R) rfl ?_
      refine k_iload_n (pc := 41) i_127_41 rfl ?_
      refine k_bipush (pc := 42) (v := 12) i_127_42 (by decide) ?_
      refine k_imul (pc := 44) i_127_44 ?_
      refine k_iload_n (pc := 45) i_127_45 rfl ?_
      refine k_iadd (pc := 46) i_127_46 ?_
      refine k_aload_n (pc := 47) i_127_47 rfl rfl ?_
      refine k_getf (pc := 48) i_127_48 f_7_61 (rd_Mo R) rfl ?_
      refine k_iload_n (pc := 51) i_127_51 rfl ?_
      refine k_sipush (pc := 52) (v := 150) i_127_52 (by decide) ?_
      refine k_imul (pc := 55) i_127_55 ?_
      refine k_aload_n (pc := 56) i_127_56 rfl rfl ?_
      refine k_getf (pc := 57) i_127_57 f_7_82 (rd_Mo R) rfl ?_
      refine k_iload_n (pc := 60) i_127_60 rfl ?_
      obtain ⟨g7, hF⟩ := kGx_el hF
      refine k_iald (pc := 61) i_127_61 (rd_Ma_38 R) g7 ?_
      refine k_iadd (pc := 62) i_127_62 ?_
      refine k_bipush (pc := 63) (v := 12) i_127_63 (by decide) ?_
      refine k_imul (pc := 65) i_127_65 ?_
      refine k_iload_n (pc := 66) i_127_66 rfl ?_
      refine k_iadd (pc := 67) i_127_67 ?_
      obtain ⟨g8, hF⟩ := kGx_el hF
      refine k_iald (pc := 68) i_127_68 (rd_Ma_27 R) g8 ?_
      obtain ⟨g9, hF⟩ := kGx_el hF
      refine k_iast (pc := 69) i_127_69 (rd_Ma_28 R) g9 (fun h e10 => ?_)
      replace R := kRl_sp (l := (lMa 28)) (k := ((a1 * 12) + a3).toNatClampNeg) (v := gp M (lMa 27) ((((a1 * 150) + (gp M (lMa 38) a1.toNatClampNeg)) * 12) + a3).toNatClampNeg) R rfl e10
      clear e10
      refine k_iinc (pc := 70) (v := a3 + 1) (lo2 := [some (.ref (A lMo)), some (.int a1), some (.int a2), some (.int (a3 + 1))]) i_127_70 rfl rfl rfl ?_
      refine k_goto (pc := 73) (tgt := 23) i_127_73 (by decide) ?_
      obtain rfl := Option.some.inj hF
      exact K _ R
noncomputable def F_127 (T : kT) (a1 : Int32) (M : kM) : Option (Unit × kM) :=
  kGx a1 60 (kGx a1 60 (if (gp M (lMa 26) a1.toNatClampNeg) ≤ (gp M (lMa 38) a1.toNatClampNeg) then (F_127_23 T a1 0 0 M) else (F_127_23 T a1 1 0 M)))
set_option maxHeartbeats 1000000 in
theorem D_127 {G : kG} {d : Nat} {A : kLb → Nat} {T : kT} {M : kM} {h : kH} {a1 : Int32} {z : (Unit × kM)} (R : kRl A T M h) (hF : F_127 T a1 M = some z) : kRun G (d + 2) 127 [.ref (A lMo), .int a1] h 0 0 (kPV A T z) := by
  refine ⟨⟨rfl, Nat.le_of_ble_eq_true rfl⟩, ?_⟩
  show kWP _ _ (kRun G (d + 1)) _ 0 [some (.ref (A lMo)), some (.int a1), none, none] [] _ _ _
  have K : (fun z : (Unit × kM) => ∀ h1, kRl A T z.2 h1 → kPV A T z (.inl none) h1) z := fun _ q => ⟨rfl, q⟩
  unfold F_127 at hF
  refine k_aload_n (pc := 0) i_127_0 rfl rfl ?_
  refine k_getf (pc := 1) i_127_1 f_7_82 (rd_Mo R) rfl ?_
  refine k_iload_n (pc := 4) i_127_4 rfl ?_
  obtain ⟨g1, hF⟩ := kGx_el hF
  refine k_iald (pc := 5) i_127_5 (rd_Ma_38 R) g1 ?_
  refine k_aload_n (pc := 6) i_127_6 rfl rfl ?_
  refine k_getf (pc := 7) i_127_7 f_7_57 (rd_Mo R) rfl ?_
  refine k_iload_n (pc := 10) i_127_10 rfl ?_
  obtain ⟨g2, hF⟩ := kGx_el hF
  refine k_iald (pc := 11) i_127_11 (rd_Ma_26 R) g2 ?_
  refine k_icmp_ge (pc := 12) (tgt := 19) i_127_12 (by decide) (fun c3 => ?_) (fun c3 => ?_)
  · rw [if_pos c3] at hF
    refine k_iconst (pc := 19) (v := 0) i_127_19 (by decide) ?_
    refine k_istore_n (pc := 20) (lo2 := [some (.ref (A lMo)), some (.int a1), some (.int 0), none]) i_127_20 (Nat.le_of_ble_eq_true rfl) rfl ?_
    refine k_iconst (pc := 21) (v := 0) i_127_21 (by decide) ?_
    refine k_istore_n (pc := 22) (lo2 := [some (.ref (A lMo)), some (.int a1), some (.int 0), some (.int 0)]) i_127_22 (Nat.le_of_ble_eq_true rfl) rfl ?_
    exact W_127_23 (d := d) rfl R K hF
  · rw [if_neg c3] at hF
    refine k_iconst (pc := 15) (v := 1) i_127_15 (by decide) ?_
    refine k_goto (pc := 16) (tgt := 20) i_127_16 (by decide) ?_
    refine k_istore_n (pc := 20) (lo2 := [some (.ref (A lMo)), some (.int a1), some (.int 1), none]) i_127_20 (Nat.le_of_ble_eq_true rfl) rfl ?_
    refine k_iconst (pc := 21) (v := 0) i_127_21 (by decide) ?_
    refine k_istore_n (pc := 22) (lo2 := [some (.ref (A lMo)), some (.int a1), some (.int 1), some (.int 0)]) i_127_22 (Nat.le_of_ble_eq_true rfl) rfl ?_
    exact W_127_23 (d := d) rfl R K hF
-- 128: RDModel asked
noncomputable def F_128_92 (T : kT) (a1 : Int32) (a2 : Int32) (M : kM) : Option (Int32 × kM) :=
  kGx a1 60 (if (gp M (lMa 39) a1.toNatClampNeg) = 0 then (kGx a1 60 (kBd (F_123 T (gp M (lMa 19) a1.toNatClampNeg) M) (fun r21 M22 => some (1, M22)))) else (if a2 = 9 then (kBd (F_124 T a1 0 M) (fun r14 M15 => some (1, M15))) else (kBd (F_127 T a1 M) (fun r17 M18 => some (1, M18)))))
set_option maxHeartbeats 1000000 in
theorem W_128_92 {G : kG} {d : Nat} {A : kLb → Nat} {C : kCl} {P : kO → kH → Prop} {T : kT} {M : kM} {h : kH} {a1 : Int32} {a2 : Int32} {z : (Int32 × kM)} (hC : C = kRun G (d + 3)) (R : kRl A T M h) (K : (fun z : (Int32 × kM) => ∀ h1, kRl A T z.2 h1 → P (.inl (some (.int z.1))) h1) z) (hF : F_128_92 T a1 a2 M = some z) : kWP G 128 C P 92 [some (.ref (A lMo)), some (.int a1), some (.int a2)] [] h 0 0 := by
  unfold F_128_92 at hF
  refine k_aload_n (pc := 92) i_128_92 rfl rfl ?_
  refine k_getf (pc := 93) i_128_93 f_7_85 (rd_Mo R) rfl ?_
  refine k_iload_n (pc := 96) i_128_96 rfl ?_
  obtain ⟨g11, hF⟩ := kGx_el hF
  refine k_zald (pc := 97) i_128_97 (rd_Ma_39 R) g11 ?_
  refine k_if_ne (pc := 98) (tgt := 114) i_128_98 (by decide) (fun c12 => ?_) (fun c12 => ?_)
  · rw [if_neg c12] at hF
    refine k_iload_n (pc := 114) i_128_114 rfl ?_
    refine k_bipush (pc := 115) (v := 9) i_128_115 (by decide) ?_
    refine k_icmp_eq (pc := 117) (tgt := 128) i_128_117 (by decide) (fun c13 => ?_) (fun c13 => ?_)
    · rw [if_pos c13] at hF
      refine k_aload_n (pc := 128) i_128_128 rfl rfl ?_
      refine k_iload_n (pc := 129) i_128_129 rfl ?_
      refine k_iconst (pc := 130) (v := 0) i_128_130 (by decide) ?_
      obtain ⟨r14, M15, q16, hF⟩ := kBd_el hF
      refine kcv_V (pc := 131) (As := [.ref (A lMo), .int a1, .int 0]) (st := []) (A := A) (T := T) (r := r14) (M1 := M15) i_128_131 m_7_190 rfl rfl rfl rfl (rd_Mo R) rfl (Nat.le_of_ble_eq_true rfl) (hC ▸ D_124 R q16) (fun h R => ?_)
      refine k_goto (pc := 134) (tgt := 175) i_128_134 (by decide) ?_
      refine k_iconst (pc := 175) (v := 1) i_128_175 (by decide) ?_
      obtain rfl := Option.some.inj hF
      exact k_ireturn (pc := 176) i_128_176 rfl rfl (K _ R)
    · rw [if_neg c13] at hF
      refine k_aload_n (pc := 120) i_128_120 rfl rfl ?_
      refine k_iload_n (pc := 121) i_128_121 rfl ?_
      obtain ⟨r17, M18, q19, hF⟩ := kBd_el hF
      refine kcv_V (pc := 122) (As := [.ref (A lMo), .int a1]) (st := []) (A := A) (T := T) (r := r17) (M1 := M18) i_128_122 m_7_206 rfl rfl rfl rfl (rd_Mo R) rfl (Nat.le_of_ble_eq_true rfl) (hC ▸ D_127 R q19) (fun h R => ?_)
      refine k_goto (pc := 125) (tgt := 175) i_128_125 (by decide) ?_
      refine k_iconst (pc := 175) (v := 1) i_128_175 (by decide) ?_
      obtain rfl := Option.some.inj hF
      exact k_ireturn (pc := 176) i_128_176 rfl rfl (K _ R)
  · rw [if_pos c12] at hF
    refine k_aload_n (pc := 101) i_128_101 rfl rfl ?_
    refine k_aload_n (pc := 102) i_128_102 rfl rfl ?_
    refine k_getf (pc := 103) i_128_103 f_7_48 (rd_Mo R) rfl ?_
    refine k_iload_n (pc := 106) i_128_106 rfl ?_
    obtain ⟨g20, hF⟩ := kGx_el hF
    refine k_iald (pc := 107) i_128_107 (rd_Ma_19 R) g20 ?_
    obtain ⟨r21, M22, q23, hF⟩ := kBd_el hF
    refine kcv_V (pc := 108) (As := [.ref (A lMo), .int (gp M (lMa 19) a1.toNatClampNeg)]) (st := []) (A := A) (T := T) (r := r21) (M1 := M22) i_128_108 m_7_203 rfl rfl rfl rfl (rd_Mo R) rfl (Nat.le_of_ble_eq_true rfl) (hC ▸ D_123 R q23) (fun h R => ?_)
    refine k_goto (pc := 111) (tgt := 175) i_128_111 (by decide) ?_
    refine k_iconst (pc := 175) (v := 1) i_128_175 (by decide) ?_
    obtain rfl := Option.some.inj hF
    exact k_ireturn (pc := 176) i_128_176 rfl rfl (K _ R)
noncomputable def F_128_172 (T : kT) (s0 : Int32) (M : kM) : Option (Int32 × kM) :=
  kBd (F_123 T s0 M) (fun r15 M16 => some (1, M16))
set_option maxHeartbeats 1000000 in
theorem W_128_172 {G : kG} {d : Nat} {A : kLb → Nat} {C : kCl} {P : kO → kH → Prop} {T : kT} {M : kM} {h : kH} {s0 : Int32} {b0 b1 b2 : Option Value} {z : (Int32 × kM)} (hC : C = kRun G (d + 3)) (R : kRl A T M h) (K : (fun z : (Int32 × kM) => ∀ h1, kRl A T z.2 h1 → P (.inl (some (.int z.1))) h1) z) (hF : F_128_172 T s0 M = some z) : kWP G 128 C P 172 [b0, b1, b2] [.int s0, .ref (A lMo)] h 0 0 := by
  unfold F_128_172 at hF
  obtain ⟨r15, M16, q17, hF⟩ := kBd_el hF
  refine kcv_V (pc := 172) (As := [.ref (A lMo), .int s0]) (st := []) (A := A) (T := T) (r := r15) (M1 := M16) i_128_172 m_7_203 rfl rfl rfl rfl (rd_Mo R) rfl (Nat.le_of_ble_eq_true rfl) (hC ▸ D_123 R q17) (fun h R => ?_)
  refine k_iconst (pc := 175) (v := 1) i_128_175 (by decide) ?_
  obtain rfl := Option.some.inj hF
  exact k_ireturn (pc := 176) i_128_176 rfl rfl (K _ R)
noncomputable def F_128_166 (T : kT) (a1 : Int32) (M : kM) : Option (Int32 × kM) :=
  kGx a1 60 (F_128_172 T (gp M (lMa 19) a1.toNatClampNeg) M)
set_option maxHeartbeats 1000000 in
theorem W_128_166 {G : kG} {d : Nat} {A : kLb → Nat} {C : kCl} {P : kO → kH → Prop} {T : kT} {M : kM} {h : kH} {a1 : Int32} {b2 : Option Value} {z : (Int32 × kM)} (hC : C = kRun G (d + 3)) (R : kRl A T M h) (K : (fun z : (Int32 × kM) => ∀ h1, kRl A T z.2 h1 → P (.inl (some (.int z.1))) h1) z) (hF : F_128_166 T a1 M = some z) : kWP G 128 C P 166 [some (.ref (A lMo)), some (.int a1), b2] [.ref (A lMo)] h 0 0 := by
  unfold F_128_166 at hF
  refine k_aload_n (pc := 166) i_128_166 rfl rfl ?_
  refine k_getf (pc := 167) i_128_167 f_7_48 (rd_Mo R) rfl ?_
  refine k_iload_n (pc := 170) i_128_170 rfl ?_
  obtain ⟨g14, hF⟩ := kGx_el hF
  refine k_iald (pc := 171) i_128_171 (rd_Ma_19 R) g14 ?_
  exact W_128_172 (d := d) hC R K hF
noncomputable def F_128_74 (T : kT) (a1 : Int32) (a2 : Int32) (M : kM) : Option (Int32 × kM) :=
  if a2 = 7 then (F_128_92 T a1 a2 M) else (if a2 = 10 then (F_128_92 T a1 a2 M) else (if a2 = 9 then (F_128_92 T a1 a2 M) else (if a2 < 3 then (F_128_166 T a1 M) else (if 5 < a2 then (F_128_166 T a1 M) else (kGx a1 60 (if (gp M (lMa 39) a1.toNatClampNeg) = 0 then (F_128_166 T a1 M) else (kGx a1 60 (F_128_172 T (gp M (lMa 20) a1.toNatClampNeg) M))))))))
set_option maxHeartbeats 1000000 in
theorem W_128_74 {G : kG} {d : Nat} {A : kLb → Nat} {C : kCl} {P : kO → kH → Prop} {T : kT} {M : kM} {h : kH} {a1 : Int32} {a2 : Int32} {z : (Int32 × kM)} (hC : C = kRun G (d + 3)) (R : kRl A T M h) (K : (fun z : (Int32 × kM) => ∀ h1, kRl A T z.2 h1 → P (.inl (some (.int z.1))) h1) z) (hF : F_128_74 T a1 a2 M = some z) : kWP G 128 C P 74 [some (.ref (A lMo)), some (.int a1), some (.int a2)] [] h 0 0 := by
  unfold F_128_74 at hF
  refine k_iload_n (pc := 74) i_128_74 rfl ?_
  refine k_bipush (pc := 75) (v := 7) i_128_75 (by decide) ?_
  refine k_icmp_eq (pc := 77) (tgt := 92) i_128_77 (by decide) (fun c10 => ?_) (fun c10 => ?_)
  · rw [if_pos c10] at hF
    exact W_128_92 (d := d) hC R K hF
  · rw [if_neg c10] at hF
    refine k_iload_n (pc := 80) i_128_80 rfl ?_
    refine k_bipush (pc := 81) (v := 10) i_128_81 (by decide) ?_
    refine k_icmp_eq (pc := 83) (tgt := 92) i_128_83 (by decide) (fun c11 => ?_) (fun c11 => ?_)
    · rw [if_pos c11] at hF
      exact W_128_92 (d := d) hC R K hF
    · rw [if_neg c11] at hF
      refine k_iload_n (pc := 86) i_128_86 rfl ?_
      refine k_bipush (pc := 87) (v := 9) i_128_87 (by decide) ?_
      refine k_icmp_ne (pc := 89) (tgt := 137) i_128_89 (by decide) (fun c12 => ?_) (fun c12 => ?_)
      · rw [if_neg c12] at hF
        refine k_aload_n (pc := 137) i_128_137 rfl rfl ?_
        refine k_iload_n (pc := 138) i_128_138 rfl ?_
        refine k_iconst (pc := 139) (v := 3) i_128_139 (by decide) ?_
        refine k_icmp_lt (pc := 140) (tgt := 166) i_128_140 (by decide) (fun c13 => ?_) (fun c13 => ?_)
        · rw [if_pos c13] at hF
          exact W_128_166 (d := d) hC R K hF
        · rw [if_neg c13] at hF
          refine k_iload_n (pc := 143) i_128_143 rfl ?_
          refine k_iconst (pc := 144) (v := 5) i_128_144 (by decide) ?_
          refine k_icmp_gt (pc := 145) (tgt := 166) i_128_145 (by decide) (fun c14 => ?_) (fun c14 => ?_)
          · rw [if_pos c14] at hF
            exact W_128_166 (d := d) hC R K hF
          · rw [if_neg c14] at hF
            refine k_aload_n (pc := 148) i_128_148 rfl rfl ?_
            refine k_getf (pc := 149) i_128_149 f_7_85 (rd_Mo R) rfl ?_
            refine k_iload_n (pc := 152) i_128_152 rfl ?_
            obtain ⟨g15, hF⟩ := kGx_el hF
            refine k_zald (pc := 153) i_128_153 (rd_Ma_39 R) g15 ?_
            refine k_if_eq (pc := 154) (tgt := 166) i_128_154 (by decide) (fun c16 => ?_) (fun c16 => ?_)
            · rw [if_pos c16] at hF
              exact W_128_166 (d := d) hC R K hF
            · rw [if_neg c16] at hF
              refine k_aload_n (pc := 157) i_128_157 rfl rfl ?_
              refine k_getf (pc := 158) i_128_158 f_7_51 (rd_Mo R) rfl ?_
              refine k_iload_n (pc := 161) i_128_161 rfl ?_
              obtain ⟨g17, hF⟩ := kGx_el hF
              refine k_iald (pc := 162) i_128_162 (rd_Ma_20 R) g17 ?_
              refine k_goto (pc := 163) (tgt := 172) i_128_163 (by decide) ?_
              exact W_128_172 (d := d) hC R K hF
      · rw [if_pos c12] at hF
        exact W_128_92 (d := d) hC R K hF
noncomputable def F_128 (T : kT) (a1 : Int32) (M : kM) : Option (Int32 × kM) :=
  kBd (F_118 T a1 M) (fun r1 M2 => if r1 = 0 then (kBd (F_126 T a1 a1 (-1) M2) (fun r26 M27 => kGd (r26 == 0 || r26 == 1) (some (r26, M27)))) else (kBd (F_125 T a1 M2) (fun r5 M6 => if r5 = 0 then (if r1 = 8 then (kGx a1 60 (kBd (F_117 T a1 1 M6) (fun r11 M12 => if (gp M6 (lMa 26) a1.toNatClampNeg) < r11 then (F_128_74 T a1 r1 M12) else (kBd (F_124 T a1 0 M12) (fun r15 M16 => some (1, M16)))))) else (F_128_74 T a1 r1 M6)) else (kGx a1 60 (kBd (F_117 T a1 1 M6) (fun r19 M20 => kBd (F_126 T a1 (gp M6 (lMa 19) a1.toNatClampNeg) r19 M20) (fun r22 M23 => kGd (r22 == 0 || r22 == 1) (some (r22, M23)))))))))
set_option maxHeartbeats 1000000 in
theorem D_128 {G : kG} {d : Nat} {A : kLb → Nat} {T : kT} {M : kM} {h : kH} {a1 : Int32} {z : (Int32 × kM)} (R : kRl A T M h) (hF : F_128 T a1 M = some z) : kRun G (d + 4) 128 [.ref (A lMo), .int a1] h 0 0 (kPI A T z) := by
  refine ⟨⟨rfl, Nat.le_of_ble_eq_true rfl⟩, ?_⟩
  show kWP _ _ (kRun G (d + 3)) _ 0 [some (.ref (A lMo)), some (.int a1), none] [] _ _ _
  have K : (fun z : (Int32 × kM) => ∀ h1, kRl A T z.2 h1 → kPI A T z (.inl (some (.int z.1))) h1) z := fun _ q => ⟨rfl, q⟩
  unfold F_128 at hF
  refine k_aload_n (pc := 0) i_128_0 rfl rfl ?_
  refine k_iload_n (pc := 1) i_128_1 rfl ?_
  obtain ⟨r1, M2, q3, hF⟩ := kBd_el hF
  refine kcv_I (pc := 2) (As := [.ref (A lMo), .int a1]) (st := []) (A := A) (T := T) (r := r1) (M1 := M2) i_128_2 m_7_155 rfl rfl rfl rfl (rd_Mo R) rfl (Nat.le_of_ble_eq_true rfl) (D_118 R q3) (fun h R => ?_)
  refine k_istore_n (pc := 5) (lo2 := [some (.ref (A lMo)), some (.int a1), some (.int r1)]) i_128_5 (Nat.le_of_ble_eq_true rfl) rfl ?_
  refine k_iload_n (pc := 6) i_128_6 rfl ?_
  refine k_if_ne (pc := 7) (tgt := 18) i_128_7 (by decide) (fun c4 => ?_) (fun c4 => ?_)
  · rw [if_neg c4] at hF
    refine k_aload_n (pc := 18) i_128_18 rfl rfl ?_
    refine k_iload_n (pc := 19) i_128_19 rfl ?_
    obtain ⟨r5, M6, q7, hF⟩ := kBd_el hF
    refine kcv_I (pc := 20) (As := [.ref (A lMo), .int a1]) (st := []) (A := A) (T := T) (r := r5) (M1 := M6) i_128_20 m_7_200 rfl rfl rfl rfl (rd_Mo R) rfl (Nat.le_of_ble_eq_true rfl) (D_125 R q7) (fun h R => ?_)
    refine k_if_eq (pc := 23) (tgt := 44) i_128_23 (by decide) (fun c8 => ?_) (fun c8 => ?_)
    · rw [if_pos c8] at hF
      refine k_iload_n (pc := 44) i_128_44 rfl ?_
      refine k_bipush (pc := 45) (v := 8) i_128_45 (by decide) ?_
      refine k_icmp_ne (pc := 47) (tgt := 74) i_128_47 (by decide) (fun c9 => ?_) (fun c9 => ?_)
      · rw [if_neg c9] at hF
        exact W_128_74 (d := d) rfl R K hF
      · rw [if_pos c9] at hF
        refine k_aload_n (pc := 50) i_128_50 rfl rfl ?_
        refine k_getf (pc := 51) i_128_51 f_7_57 (rd_Mo R) rfl ?_
        refine k_iload_n (pc := 54) i_128_54 rfl ?_
        obtain ⟨g10, hF⟩ := kGx_el hF
        refine k_iald (pc := 55) i_128_55 (rd_Ma_26 R) g10 ?_
        refine k_aload_n (pc := 56) i_128_56 rfl rfl ?_
        refine k_iload_n (pc := 57) i_128_57 rfl ?_
        refine k_iconst (pc := 58) (v := 1) i_128_58 (by decide) ?_
        obtain ⟨r11, M12, q13, hF⟩ := kBd_el hF
        refine kcv_I (pc := 59) (As := [.ref (A lMo), .int a1, .int 1]) (st := [.int (gp M6 (lMa 26) a1.toNatClampNeg)]) (A := A) (T := T) (r := r11) (M1 := M12) i_128_59 m_7_166 rfl rfl rfl rfl (rd_Mo R) rfl (Nat.le_of_ble_eq_true rfl) (D_117 R q13) (fun h R => ?_)
        refine k_icmp_lt (pc := 62) (tgt := 74) i_128_62 (by decide) (fun c14 => ?_) (fun c14 => ?_)
        · rw [if_pos c14] at hF
          exact W_128_74 (d := d) rfl R K hF
        · rw [if_neg c14] at hF
          refine k_aload_n (pc := 65) i_128_65 rfl rfl ?_
          refine k_iload_n (pc := 66) i_128_66 rfl ?_
          refine k_iconst (pc := 67) (v := 0) i_128_67 (by decide) ?_
          obtain ⟨r15, M16, q17, hF⟩ := kBd_el hF
          refine kcv_V (pc := 68) (As := [.ref (A lMo), .int a1, .int 0]) (st := []) (A := A) (T := T) (r := r15) (M1 := M16) i_128_68 m_7_190 rfl rfl rfl rfl (rd_Mo R) rfl (Nat.le_of_ble_eq_true rfl) (D_124 R q17) (fun h R => ?_)
          refine k_goto (pc := 71) (tgt := 175) i_128_71 (by decide) ?_
          refine k_iconst (pc := 175) (v := 1) i_128_175 (by decide) ?_
          obtain rfl := Option.some.inj hF
          exact k_ireturn (pc := 176) i_128_176 rfl rfl (K _ R)
    · rw [if_neg c8] at hF
      refine k_aload_n (pc := 26) i_128_26 rfl rfl ?_
      refine k_iload_n (pc := 27) i_128_27 rfl ?_
      refine k_aload_n (pc := 28) i_128_28 rfl rfl ?_
      refine k_getf (pc := 29) i_128_29 f_7_48 (rd_Mo R) rfl ?_
      refine k_iload_n (pc := 32) i_128_32 rfl ?_
      obtain ⟨g18, hF⟩ := kGx_el hF
      refine k_iald (pc := 33) i_128_33 (rd_Ma_19 R) g18 ?_
      refine k_aload_n (pc := 34) i_128_34 rfl rfl ?_
      refine k_iload_n (pc := 35) i_128_35 rfl ?_
      refine k_iconst (pc := 36) (v := 1) i_128_36 (by decide) ?_
      obtain ⟨r19, M20, q21, hF⟩ := kBd_el hF
      refine kcv_I (pc := 37) (As := [.ref (A lMo), .int a1, .int 1]) (st := [.int (gp M6 (lMa 19) a1.toNatClampNeg), .int a1, .ref (A lMo)]) (A := A) (T := T) (r := r19) (M1 := M20) i_128_37 m_7_166 rfl rfl rfl rfl (rd_Mo R) rfl (Nat.le_of_ble_eq_true rfl) (D_117 R q21) (fun h R => ?_)
      obtain ⟨r22, M23, q24, hF⟩ := kBd_el hF
      refine kcv_I (pc := 40) (As := [.ref (A lMo), .int a1, .int (gp M6 (lMa 19) a1.toNatClampNeg), .int r19]) (st := []) (A := A) (T := T) (r := r22) (M1 := M23) i_128_40 m_7_197 rfl rfl rfl rfl (rd_Mo R) rfl (Nat.le_of_ble_eq_true rfl) (D_126 R q24) (fun h R => ?_)
      obtain ⟨g25, hF⟩ := kGd_el hF
      obtain rfl := Option.some.inj hF
      exact k_ireturn (pc := 43) i_128_43 rfl (kz_nar g25) (K _ R)
  · rw [if_pos c4] at hF
    refine k_aload_n (pc := 10) i_128_10 rfl rfl ?_
    refine k_iload_n (pc := 11) i_128_11 rfl ?_
    refine k_iload_n (pc := 12) i_128_12 rfl ?_
    refine k_iconst (pc := 13) (v := (-1)) i_128_13 (by decide) ?_
    obtain ⟨r26, M27, q28, hF⟩ := kBd_el hF
    refine kcv_I (pc := 14) (As := [.ref (A lMo), .int a1, .int a1, .int (-1)]) (st := []) (A := A) (T := T) (r := r26) (M1 := M27) i_128_14 m_7_197 rfl rfl rfl rfl (rd_Mo R) rfl (Nat.le_of_ble_eq_true rfl) (D_126 R q28) (fun h R => ?_)
    obtain ⟨g29, hF⟩ := kGd_el hF
    obtain rfl := Option.some.inj hF
    exact k_ireturn (pc := 17) i_128_17 rfl (kz_nar g29) (K _ R)
-- 129: RDModel ended
noncomputable def F_129_93 (T : kT) (a1 : Int32) (M : kM) : Option (Unit × kM) :=
  kGx a1 60 (kBd (F_127 T a1 (sp M (lMa 39) a1.toNatClampNeg 1)) (fun r11 M12 => some ((), M12)))
set_option maxHeartbeats 1000000 in
theorem W_129_93 {G : kG} {d : Nat} {A : kLb → Nat} {C : kCl} {P : kO → kH → Prop} {T : kT} {M : kM} {h : kH} {a1 : Int32} {b2 b3 : Option Value} {z : (Unit × kM)} (hC : C = kRun G (d + 2)) (R : kRl A T M h) (K : (fun z : (Unit × kM) => ∀ h1, kRl A T z.2 h1 → P (.inl none) h1) z) (hF : F_129_93 T a1 M = some z) : kWP G 129 C P 93 [some (.ref (A lMo)), some (.int a1), b2, b3] [] h 0 0 := by
  unfold F_129_93 at hF
  refine k_aload_n (pc := 93) i_129_93 rfl rfl ?_
  refine k_getf (pc := 94) i_129_94 f_7_85 (rd_Mo R) rfl ?_
  refine k_iload_n (pc := 97) i_129_97 rfl ?_
  refine k_iconst (pc := 98) (v := 1) i_129_98 (by decide) ?_
  obtain ⟨g9, hF⟩ := kGx_el hF
  refine k_zast (pc := 99) i_129_99 (rd_Ma_39 R) g9 (fun h e10 => ?_)
  replace R := kRl_sp (l := (lMa 39)) (k := a1.toNatClampNeg) (v := 1) R rfl e10
  clear e10
  refine k_aload_n (pc := 100) i_129_100 rfl rfl ?_
  refine k_iload_n (pc := 101) i_129_101 rfl ?_
  obtain ⟨r11, M12, q13, hF⟩ := kBd_el hF
  refine kcv_V (pc := 102) (As := [.ref (A lMo), .int a1]) (st := []) (A := A) (T := T) (r := r11) (M1 := M12) i_129_102 m_7_206 rfl rfl rfl rfl (rd_Mo R) rfl (Nat.le_of_ble_eq_true rfl) (hC ▸ D_127 R q13) (fun h R => ?_)
  refine k_goto (pc := 105) (tgt := 151) i_129_105 (by decide) ?_
  obtain rfl := Option.some.inj hF
  exact k_return (pc := 151) i_129_151 rfl (K _ R)
noncomputable def F_129_81 (T : kT) (a1 : Int32) (a3 : Int32) (M : kM) : Option (Unit × kM) :=
  if a3 = 7 then (F_129_93 T a1 M) else (if a3 = 10 then (F_129_93 T a1 M) else (if a3 = 9 then (kGx a1 60 (kGx a1 60 (kGx (a1 * 12) 720 (kBd (F_124 T a1 1 (sp (sp M (lMa 39) a1.toNatClampNeg 1) (lMa 28) (a1 * 12).toNatClampNeg (gp (sp M (lMa 39) a1.toNatClampNeg 1) (lMa 26) a1.toNatClampNeg))) (fun r19 M20 => some ((), M20)))))) else (kBd (F_124 T a1 0 M) (fun r11 M12 => some ((), M12)))))
set_option maxHeartbeats 1000000 in
theorem W_129_81 {G : kG} {d : Nat} {A : kLb → Nat} {C : kCl} {P : kO → kH → Prop} {T : kT} {M : kM} {h : kH} {a1 : Int32} {a3 : Int32} {b2 : Option Value} {z : (Unit × kM)} (hC : C = kRun G (d + 2)) (R : kRl A T M h) (K : (fun z : (Unit × kM) => ∀ h1, kRl A T z.2 h1 → P (.inl none) h1) z) (hF : F_129_81 T a1 a3 M = some z) : kWP G 129 C P 81 [some (.ref (A lMo)), some (.int a1), b2, some (.int a3)] [] h 0 0 := by
  unfold F_129_81 at hF
  refine k_iload_n (pc := 81) i_129_81 rfl ?_
  refine k_bipush (pc := 82) (v := 7) i_129_82 (by decide) ?_
  refine k_icmp_eq (pc := 84) (tgt := 93) i_129_84 (by decide) (fun c8 => ?_) (fun c8 => ?_)
  · rw [if_pos c8] at hF
    exact W_129_93 (d := d) hC R K hF
  · rw [if_neg c8] at hF
    refine k_iload_n (pc := 87) i_129_87 rfl ?_
    refine k_bipush (pc := 88) (v := 10) i_129_88 (by decide) ?_
    refine k_icmp_ne (pc := 90) (tgt := 108) i_129_90 (by decide) (fun c9 => ?_) (fun c9 => ?_)
    · rw [if_neg c9] at hF
      refine k_iload_n (pc := 108) i_129_108 rfl ?_
      refine k_bipush (pc := 109) (v := 9) i_129_109 (by decide) ?_
      refine k_icmp_ne (pc := 111) (tgt := 145) i_129_111 (by decide) (fun c10 => ?_) (fun c10 => ?_)
      · rw [if_neg c10] at hF
        refine k_aload_n (pc := 145) i_129_145 rfl rfl ?_
        refine k_iload_n (pc := 146) i_129_146 rfl ?_
        refine k_iconst (pc := 147) (v := 0) i_129_147 (by decide) ?_
        obtain ⟨r11, M12, q13, hF⟩ := kBd_el hF
        refine kcv_V (pc := 148) (As := [.ref (A lMo), .int a1, .int 0]) (st := []) (A := A) (T := T) (r := r11) (M1 := M12) i_129_148 m_7_190 rfl rfl rfl rfl (rd_Mo R) rfl (Nat.le_of_ble_eq_true rfl) (hC ▸ D_124 R q13) (fun h R => ?_)
        obtain rfl := Option.some.inj hF
        exact k_return (pc := 151) i_129_151 rfl (K _ R)
      · rw [if_pos c10] at hF
        refine k_aload_n (pc := 114) i_129_114 rfl rfl ?_
        refine k_getf (pc := 115) i_129_115 f_7_85 (rd_Mo R) rfl ?_
        refine k_iload_n (pc := 118) i_129_118 rfl ?_
        refine k_iconst (pc := 119) (v := 1) i_129_119 (by decide) ?_
        obtain ⟨g14, hF⟩ := kGx_el hF
        refine k_zast (pc := 120) i_129_120 (rd_Ma_39 R) g14 (fun h e15 => ?_)
        replace R := kRl_sp (l := (lMa 39)) (k := a1.toNatClampNeg) (v := 1) R rfl e15
        clear e15
        refine k_aload_n (pc := 121) i_129_121 rfl rfl ?_
        refine k_getf (pc := 122) i_129_122 f_7_64 (rd_Mo R) rfl ?_
        refine k_iload_n (pc := 125) i_129_125 rfl ?_
        refine k_bipush (pc := 126) (v := 12) i_129_126 (by decide) ?_
        refine k_imul (pc := 128) i_129_128 ?_
        refine k_aload_n (pc := 129) i_129_129 rfl rfl ?_
        refine k_getf (pc := 130) i_129_130 f_7_57 (rd_Mo R) rfl ?_
        refine k_iload_n (pc := 133) i_129_133 rfl ?_
        obtain ⟨g16, hF⟩ := kGx_el hF
        refine k_iald (pc := 134) i_129_134 (rd_Ma_26 R) g16 ?_
        obtain ⟨g17, hF⟩ := kGx_el hF
        refine k_iast (pc := 135) i_129_135 (rd_Ma_28 R) g17 (fun h e18 => ?_)
        replace R := kRl_sp (l := (lMa 28)) (k := (a1 * 12).toNatClampNeg) (v := gp (sp M (lMa 39) a1.toNatClampNeg 1) (lMa 26) a1.toNatClampNeg) R rfl e18
        clear e18
        refine k_aload_n (pc := 136) i_129_136 rfl rfl ?_
        refine k_iload_n (pc := 137) i_129_137 rfl ?_
        refine k_iconst (pc := 138) (v := 1) i_129_138 (by decide) ?_
        obtain ⟨r19, M20, q21, hF⟩ := kBd_el hF
        refine kcv_V (pc := 139) (As := [.ref (A lMo), .int a1, .int 1]) (st := []) (A := A) (T := T) (r := r19) (M1 := M20) i_129_139 m_7_190 rfl rfl rfl rfl (rd_Mo R) rfl (Nat.le_of_ble_eq_true rfl) (hC ▸ D_124 R q21) (fun h R => ?_)
        refine k_goto (pc := 142) (tgt := 151) i_129_142 (by decide) ?_
        obtain rfl := Option.some.inj hF
        exact k_return (pc := 151) i_129_151 rfl (K _ R)
    · rw [if_pos c9] at hF
      exact W_129_93 (d := d) hC R K hF
noncomputable def F_129_51 (T : kT) (a1 : Int32) (a2 : Int32) (a3 : Int32) (M : kM) : Option (Unit × kM) :=
  kGx a1 60 (if a2 = (gp M (lMa 20) a1.toNatClampNeg) then (kGx a1 60 (kGx a1 60 (kBd (F_123 T (gp (sp M (lMa 39) a1.toNatClampNeg 0) (lMa 19) a1.toNatClampNeg) (sp M (lMa 39) a1.toNatClampNeg 0)) (fun r11 M12 => some ((), M12))))) else (F_129_81 T a1 a3 M))
set_option maxHeartbeats 1000000 in
theorem W_129_51 {G : kG} {d : Nat} {A : kLb → Nat} {C : kCl} {P : kO → kH → Prop} {T : kT} {M : kM} {h : kH} {a1 : Int32} {a2 : Int32} {a3 : Int32} {z : (Unit × kM)} (hC : C = kRun G (d + 2)) (R : kRl A T M h) (K : (fun z : (Unit × kM) => ∀ h1, kRl A T z.2 h1 → P (.inl none) h1) z) (hF : F_129_51 T a1 a2 a3 M = some z) : kWP G 129 C P 51 [some (.ref (A lMo)), some (.int a1), some (.int a2), some (.int a3)] [] h 0 0 := by
  unfold F_129_51 at hF
  refine k_iload_n (pc := 51) i_129_51 rfl ?_
  refine k_aload_n (pc := 52) i_129_52 rfl rfl ?_
  refine k_getf (pc := 53) i_129_53 f_7_51 (rd_Mo R) rfl ?_
  refine k_iload_n (pc := 56) i_129_56 rfl ?_
  obtain ⟨g6, hF⟩ := kGx_el hF
  refine k_iald (pc := 57) i_129_57 (rd_Ma_20 R) g6 ?_
  refine k_icmp_ne (pc := 58) (tgt := 81) i_129_58 (by decide) (fun c7 => ?_) (fun c7 => ?_)
  · rw [if_neg c7] at hF
    exact W_129_81 (d := d) hC R K hF
  · rw [if_pos c7] at hF
    refine k_aload_n (pc := 61) i_129_61 rfl rfl ?_
    refine k_getf (pc := 62) i_129_62 f_7_85 (rd_Mo R) rfl ?_
    refine k_iload_n (pc := 65) i_129_65 rfl ?_
    refine k_iconst (pc := 66) (v := 0) i_129_66 (by decide) ?_
    obtain ⟨g8, hF⟩ := kGx_el hF
    refine k_zast (pc := 67) i_129_67 (rd_Ma_39 R) g8 (fun h e9 => ?_)
    replace R := kRl_sp (l := (lMa 39)) (k := a1.toNatClampNeg) (v := 0) R rfl e9
    clear e9
    refine k_aload_n (pc := 68) i_129_68 rfl rfl ?_
    refine k_aload_n (pc := 69) i_129_69 rfl rfl ?_
    refine k_getf (pc := 70) i_129_70 f_7_48 (rd_Mo R) rfl ?_
    refine k_iload_n (pc := 73) i_129_73 rfl ?_
    obtain ⟨g10, hF⟩ := kGx_el hF
    refine k_iald (pc := 74) i_129_74 (rd_Ma_19 R) g10 ?_
    obtain ⟨r11, M12, q13, hF⟩ := kBd_el hF
    refine kcv_V (pc := 75) (As := [.ref (A lMo), .int (gp (sp M (lMa 39) a1.toNatClampNeg 0) (lMa 19) a1.toNatClampNeg)]) (st := []) (A := A) (T := T) (r := r11) (M1 := M12) i_129_75 m_7_203 rfl rfl rfl rfl (rd_Mo R) rfl (Nat.le_of_ble_eq_true rfl) (hC ▸ D_123 R q13) (fun h R => ?_)
    refine k_goto (pc := 78) (tgt := 151) i_129_78 (by decide) ?_
    obtain rfl := Option.some.inj hF
    exact k_return (pc := 151) i_129_151 rfl (K _ R)
noncomputable def F_129_41 (T : kT) (a1 : Int32) (a2 : Int32) (a3 : Int32) (M : kM) : Option (Unit × kM) :=
  if a3 = 3 then (F_129_51 T a1 a2 a3 M) else (if a3 = 4 then (F_129_51 T a1 a2 a3 M) else (F_129_81 T a1 a3 M))
set_option maxHeartbeats 1000000 in
theorem W_129_41 {G : kG} {d : Nat} {A : kLb → Nat} {C : kCl} {P : kO → kH → Prop} {T : kT} {M : kM} {h : kH} {a1 : Int32} {a2 : Int32} {a3 : Int32} {z : (Unit × kM)} (hC : C = kRun G (d + 2)) (R : kRl A T M h) (K : (fun z : (Unit × kM) => ∀ h1, kRl A T z.2 h1 → P (.inl none) h1) z) (hF : F_129_41 T a1 a2 a3 M = some z) : kWP G 129 C P 41 [some (.ref (A lMo)), some (.int a1), some (.int a2), some (.int a3)] [] h 0 0 := by
  unfold F_129_41 at hF
  refine k_iload_n (pc := 41) i_129_41 rfl ?_
  refine k_iconst (pc := 42) (v := 3) i_129_42 (by decide) ?_
  refine k_icmp_eq (pc := 43) (tgt := 51) i_129_43 (by decide) (fun c5 => ?_) (fun c5 => ?_)
  · rw [if_pos c5] at hF
    exact W_129_51 (d := d) hC R K hF
  · rw [if_neg c5] at hF
    refine k_iload_n (pc := 46) i_129_46 rfl ?_
    refine k_iconst (pc := 47) (v := 4) i_129_47 (by decide) ?_
    refine k_icmp_ne (pc := 48) (tgt := 81) i_129_48 (by decide) (fun c6 => ?_) (fun c6 => ?_)
    · rw [if_neg c6] at hF
      exact W_129_81 (d := d) hC R K hF
    · rw [if_pos c6] at hF
      exact W_129_51 (d := d) hC R K hF
noncomputable def F_129 (T : kT) (a1 : Int32) (a2 : Int32) (M : kM) : Option (Unit × kM) :=
  kBd (F_118 T a1 M) (fun r1 M2 => if r1 = 5 then (kGx a1 60 (if a2 = (gp M2 (lMa 19) a1.toNatClampNeg) then (kGx a1 60 (kGx a1 60 (kBd (F_123 T (gp (sp M2 (lMa 39) a1.toNatClampNeg 1) (lMa 20) a1.toNatClampNeg) (sp M2 (lMa 39) a1.toNatClampNeg 1)) (fun r10 M11 => some ((), M11))))) else (F_129_41 T a1 a2 r1 M2))) else (F_129_41 T a1 a2 r1 M2))
set_option maxHeartbeats 1000000 in
theorem D_129 {G : kG} {d : Nat} {A : kLb → Nat} {T : kT} {M : kM} {h : kH} {a1 : Int32} {a2 : Int32} {z : (Unit × kM)} (R : kRl A T M h) (hF : F_129 T a1 a2 M = some z) : kRun G (d + 3) 129 [.ref (A lMo), .int a1, .int a2] h 0 0 (kPV A T z) := by
  refine ⟨⟨rfl, Nat.le_of_ble_eq_true rfl⟩, ?_⟩
  show kWP _ _ (kRun G (d + 2)) _ 0 [some (.ref (A lMo)), some (.int a1), some (.int a2), none] [] _ _ _
  have K : (fun z : (Unit × kM) => ∀ h1, kRl A T z.2 h1 → kPV A T z (.inl none) h1) z := fun _ q => ⟨rfl, q⟩
  unfold F_129 at hF
  refine k_aload_n (pc := 0) i_129_0 rfl rfl ?_
  refine k_iload_n (pc := 1) i_129_1 rfl ?_
  obtain ⟨r1, M2, q3, hF⟩ := kBd_el hF
  refine kcv_I (pc := 2) (As := [.ref (A lMo), .int a1]) (st := []) (A := A) (T := T) (r := r1) (M1 := M2) i_129_2 m_7_155 rfl rfl rfl rfl (rd_Mo R) rfl (Nat.le_of_ble_eq_true rfl) (D_118 R q3) (fun h R => ?_)
  refine k_istore_n (pc := 5) (lo2 := [some (.ref (A lMo)), some (.int a1), some (.int a2), some (.int r1)]) i_129_5 (Nat.le_of_ble_eq_true rfl) rfl ?_
  refine k_iload_n (pc := 6) i_129_6 rfl ?_
  refine k_iconst (pc := 7) (v := 5) i_129_7 (by decide) ?_
  refine k_icmp_ne (pc := 8) (tgt := 41) i_129_8 (by decide) (fun c4 => ?_) (fun c4 => ?_)
  · rw [if_neg c4] at hF
    exact W_129_41 (d := d) rfl R K hF
  · rw [if_pos c4] at hF
    refine k_iload_n (pc := 11) i_129_11 rfl ?_
    refine k_aload_n (pc := 12) i_129_12 rfl rfl ?_
    refine k_getf (pc := 13) i_129_13 f_7_48 (rd_Mo R) rfl ?_
    refine k_iload_n (pc := 16) i_129_16 rfl ?_
    obtain ⟨g5, hF⟩ := kGx_el hF
    refine k_iald (pc := 17) i_129_17 (rd_Ma_19 R) g5 ?_
    refine k_icmp_ne (pc := 18) (tgt := 41) i_129_18 (by decide) (fun c6 => ?_) (fun c6 => ?_)
    · rw [if_neg c6] at hF
      exact W_129_41 (d := d) rfl R K hF
    · rw [if_pos c6] at hF
      refine k_aload_n (pc := 21) i_129_21 rfl rfl ?_
      refine k_getf (pc := 22) i_129_22 f_7_85 (rd_Mo R) rfl ?_
      refine k_iload_n (pc := 25) i_129_25 rfl ?_
      refine k_iconst (pc := 26) (v := 1) i_129_26 (by decide) ?_
      obtain ⟨g7, hF⟩ := kGx_el hF
      refine k_zast (pc := 27) i_129_27 (rd_Ma_39 R) g7 (fun h e8 => ?_)
      replace R := kRl_sp (l := (lMa 39)) (k := a1.toNatClampNeg) (v := 1) R rfl e8
      clear e8
      refine k_aload_n (pc := 28) i_129_28 rfl rfl ?_
      refine k_aload_n (pc := 29) i_129_29 rfl rfl ?_
      refine k_getf (pc := 30) i_129_30 f_7_51 (rd_Mo R) rfl ?_
      refine k_iload_n (pc := 33) i_129_33 rfl ?_
      obtain ⟨g9, hF⟩ := kGx_el hF
      refine k_iald (pc := 34) i_129_34 (rd_Ma_20 R) g9 ?_
      obtain ⟨r10, M11, q12, hF⟩ := kBd_el hF
      refine kcv_V (pc := 35) (As := [.ref (A lMo), .int (gp (sp M2 (lMa 39) a1.toNatClampNeg 1) (lMa 20) a1.toNatClampNeg)]) (st := []) (A := A) (T := T) (r := r10) (M1 := M11) i_129_35 m_7_203 rfl rfl rfl rfl (rd_Mo R) rfl (Nat.le_of_ble_eq_true rfl) (D_123 R q12) (fun h R => ?_)
      refine k_goto (pc := 38) (tgt := 151) i_129_38 (by decide) ?_
      obtain rfl := Option.some.inj hF
      exact k_return (pc := 151) i_129_151 rfl (K _ R)
-- 130: RDModel copy
noncomputable def B_130_2 (T : kT) (a1 : Int32) (a2 : Int32) (a3 : Int32) (M : kM) : Option ((Int32 × kM) ⊕ (Unit × kM)) :=
  kGx a1 60 (if (gp M (lMa 21) a1.toNatClampNeg) ≤ a3 then (kBd (F_124 T a1 1 M) (fun r3 M4 => some (.inr (((), M4))))) else (kGx ((a2 * 12) + a3) 720 (kGx ((a1 * 12) + a3) 720 (some (.inl ((a3 + 1), sp M (lMa 28) ((a1 * 12) + a3).toNatClampNeg (gp M (lMa 28) ((a2 * 12) + a3).toNatClampNeg)))))))
noncomputable def F_130_2 (T : kT) (a1 : Int32) (a2 : Int32) (a3 : Int32) (M : kM) : Option (Unit × kM) :=
  kWh (fun w : (Int32 × kM) => B_130_2 T a1 a2 w.1 w.2) (a3, M)
theorem F_130_2_eq (T : kT) (a1 : Int32) (a2 : Int32) (a3 : Int32) (M : kM) : F_130_2 T a1 a2 a3 M = kAg (B_130_2 T a1 a2 a3 M) (fun w => F_130_2 T a1 a2 w.1 w.2) := by
  unfold F_130_2
  rw [kWh_eq]
set_option maxHeartbeats 1000000 in
theorem W_130_2 {G : kG} {d : Nat} {A : kLb → Nat} {C : kCl} {P : kO → kH → Prop} {T : kT} {M : kM} {h : kH} {a1 : Int32} {a2 : Int32} {a3 : Int32} {z : (Unit × kM)} (hC : C = kRun G (d + 1)) (R : kRl A T M h) (K : (fun z : (Unit × kM) => ∀ h1, kRl A T z.2 h1 → P (.inl none) h1) z) (hF : F_130_2 T a1 a2 a3 M = some z) : kWP G 130 C P 2 [some (.ref (A lMo)), some (.int a1), some (.int a2), some (.int a3)] [] h 0 0 := by
  refine kWh_ind (P := (fun w : (Int32 × kM) => ∀ (h : kH), kRl A T w.2 h → kWP G 130 C P 2 [some (.ref (A lMo)), some (.int a1), some (.int a2), some (.int w.1)] [] h 0 0)) (Q := (fun z : (Unit × kM) => ∀ h1, kRl A T z.2 h1 → P (.inl none) h1)) hF K ?_ h R
  clear hF K R
  intro w z hF K h R
  obtain ⟨a3, M⟩ := w
  change B_130_2 T a1 a2 a3 M = some z at hF
  change kWP G 130 C P 2 [some (.ref (A lMo)), some (.int a1), some (.int a2), some (.int a3)] [] h 0 0
  unfold B_130_2 at hF
  refine k_iload_n (pc := 2) i_130_2 rfl ?_
  refine k_aload_n (pc := 3) i_130_3 rfl rfl ?_
  refine k_getf (pc := 4) i_130_4 f_7_54 (rd_Mo R) rfl ?_
  refine k_iload_n (pc := 7) i_130_7 rfl ?_
  obtain ⟨g1, hF⟩ := kGx_el hF
  refine k_iald (pc := 8) i_130_8 (rd_Ma_21 R) g1 ?_
  refine k_icmp_ge (pc := 9) (tgt := 40) i_130_9 (by decide) (fun c2 => ?_) (fun c2 => ?_)
  · rw [if_pos c2] at hF
    refine k_aload_n (pc := 40) i_130_40 rfl rfl ?_
    refine k_iload_n (pc := 41) i_130_41 rfl ?_
    refine k_iconst (pc := 42) (v := 1) i_130_42 (by decide) ?_
    obtain ⟨r3, M4, q5, hF⟩ := kBd_el hF
    refine kcv_V (pc := 43) (As := [.ref (A lMo), .int a1, .int 1]) (st := []) (A := A) (T := T) (r := r3) (M1 := M4) i_130_43 m_7_190 rfl rfl rfl rfl (rd_Mo R) rfl (Nat.le_of_ble_eq_true rfl) (hC ▸ D_124 R q5) (fun h R => ?_)
    obtain rfl := Option.some.inj hF
    exact k_return (pc := 46) i_130_46 rfl (K _ R)
  · rw [if_neg c2] at hF
    refine k_aload_n (pc := 12) i_130_12 rfl rfl ?_
    refine k_getf (pc := 13) i_130_13 f_7_64 (rd_Mo R) rfl ?_
    refine k_iload_n (pc := 16) i_130_16 rfl ?_
    refine k_bipush (pc := 17) (v := 12) i_130_17 (by decide) ?_
    refine k_imul (pc := 19) i_130_19 ?_
    refine k_iload_n (pc := 20) i_130_20 rfl ?_
    refine k_iadd (pc := 21) i_130_21 ?_
    refine k_aload_n (pc := 22) i_130_22 rfl rfl ?_
    refine k_getf (pc := 23) i_130_23 f_7_64 (rd_Mo R) rfl ?_
    refine k_iload_n (pc := 26) i_130_26 rfl ?_
    refine k_bipush (pc := 27) (v := 12) i_130_27 (by decide) ?_
    refine k_imul (pc := 29) i_130_29 ?_
    refine k_iload_n (pc := 30) i_130_30 rfl ?_
    refine k_iadd (pc := 31) i_130_31 ?_
    obtain ⟨g6, hF⟩ := kGx_el hF
    refine k_iald (pc := 32) i_130_32 (rd_Ma_28 R) g6 ?_
    obtain ⟨g7, hF⟩ := kGx_el hF
    refine k_iast (pc := 33) i_130_33 (rd_Ma_28 R) g7 (fun h e8 => ?_)
    replace R := kRl_sp (l := (lMa 28)) (k := ((a1 * 12) + a3).toNatClampNeg) (v := gp M (lMa 28) ((a2 * 12) + a3).toNatClampNeg) R rfl e8
    clear e8
    refine k_iinc (pc := 34) (v := a3 + 1) (lo2 := [some (.ref (A lMo)), some (.int a1), some (.int a2), some (.int (a3 + 1))]) i_130_34 rfl rfl rfl ?_
    refine k_goto (pc := 37) (tgt := 2) i_130_37 (by decide) ?_
    obtain rfl := Option.some.inj hF
    exact K _ R
noncomputable def F_130 (T : kT) (a1 : Int32) (a2 : Int32) (M : kM) : Option (Unit × kM) :=
  F_130_2 T a1 a2 0 M
set_option maxHeartbeats 1000000 in
theorem D_130 {G : kG} {d : Nat} {A : kLb → Nat} {T : kT} {M : kM} {h : kH} {a1 : Int32} {a2 : Int32} {z : (Unit × kM)} (R : kRl A T M h) (hF : F_130 T a1 a2 M = some z) : kRun G (d + 2) 130 [.ref (A lMo), .int a1, .int a2] h 0 0 (kPV A T z) := by
  refine ⟨⟨rfl, Nat.le_of_ble_eq_true rfl⟩, ?_⟩
  show kWP _ _ (kRun G (d + 1)) _ 0 [some (.ref (A lMo)), some (.int a1), some (.int a2), none] [] _ _ _
  have K : (fun z : (Unit × kM) => ∀ h1, kRl A T z.2 h1 → kPV A T z (.inl none) h1) z := fun _ q => ⟨rfl, q⟩
  unfold F_130 at hF
  refine k_iconst (pc := 0) (v := 0) i_130_0 (by decide) ?_
  refine k_istore_n (pc := 1) (lo2 := [some (.ref (A lMo)), some (.int a1), some (.int a2), some (.int 0)]) i_130_1 (Nat.le_of_ble_eq_true rfl) rfl ?_
  exact W_130_2 (d := d) rfl R K hF
-- 133: RDModel holds
noncomputable def F_133 (T : kT) (a1 : Int32) (a2 : Int32) (M : kM) : Option (Int32 × kM) :=
  kBd (F_117 T a1 1 M) (fun r1 M2 => kGx ((a2 * 12) + r1) 720 (kBd (F_117 T a1 3 M2) (fun r5 M6 => kBd (F_117 T a1 2 M6) (fun r8 M9 => if r8 = 0 then (if (gp M2 (lMa 28) ((a2 * 12) + r1).toNatClampNeg) = r5 then (some (1, M9)) else (some (0, M9))) else (if r8 = 1 then (if (gp M2 (lMa 28) ((a2 * 12) + r1).toNatClampNeg) = r5 then (some (0, M9)) else (some (1, M9))) else (if r8 = 2 then (if r5 ≤ (gp M2 (lMa 28) ((a2 * 12) + r1).toNatClampNeg) then (some (0, M9)) else (some (1, M9))) else (if r8 = 3 then (if r5 < (gp M2 (lMa 28) ((a2 * 12) + r1).toNatClampNeg) then (some (0, M9)) else (some (1, M9))) else (if r8 = 4 then (if (gp M2 (lMa 28) ((a2 * 12) + r1).toNatClampNeg) ≤ r5 then (some (0, M9)) else (some (1, M9))) else (if (gp M2 (lMa 28) ((a2 * 12) + r1).toNatClampNeg) < r5 then (some (0, M9)) else (some (1, M9)))))))))))
set_option maxHeartbeats 1000000 in
theorem D_133 {G : kG} {d : Nat} {A : kLb → Nat} {T : kT} {M : kM} {h : kH} {a1 : Int32} {a2 : Int32} {z : (Int32 × kM)} (R : kRl A T M h) (hF : F_133 T a1 a2 M = some z) : kRun G (d + 2) 133 [.ref (A lMo), .int a1, .int a2] h 0 0 (kPI A T z) := by
  refine ⟨⟨rfl, Nat.le_of_ble_eq_true rfl⟩, ?_⟩
  show kWP _ _ (kRun G (d + 1)) _ 0 [some (.ref (A lMo)), some (.int a1), some (.int a2), none, none, none] [] _ _ _
  have K : (fun z : (Int32 × kM) => ∀ h1, kRl A T z.2 h1 → kPI A T z (.inl (some (.int z.1))) h1) z := fun _ q => ⟨rfl, q⟩
  unfold F_133 at hF
  refine k_aload_n (pc := 0) i_133_0 rfl rfl ?_
  refine k_getf (pc := 1) i_133_1 f_7_64 (rd_Mo R) rfl ?_
  refine k_iload_n (pc := 4) i_133_4 rfl ?_
  refine k_bipush (pc := 5) (v := 12) i_133_5 (by decide) ?_
  refine k_imul (pc := 7) i_133_7 ?_
  refine k_aload_n (pc := 8) i_133_8 rfl rfl ?_
  refine k_iload_n (pc := 9) i_133_9 rfl ?_
  refine k_iconst (pc := 10) (v := 1) i_133_10 (by decide) ?_
  obtain ⟨r1, M2, q3, hF⟩ := kBd_el hF
  refine kcv_I (pc := 11) (As := [.ref (A lMo), .int a1, .int 1]) (st := [.int (a2 * 12), .ref (A (lMa 28))]) (A := A) (T := T) (r := r1) (M1 := M2) i_133_11 m_7_166 rfl rfl rfl rfl (rd_Mo R) rfl (Nat.le_of_ble_eq_true rfl) (D_117 R q3) (fun h R => ?_)
  refine k_iadd (pc := 14) i_133_14 ?_
  obtain ⟨g4, hF⟩ := kGx_el hF
  refine k_iald (pc := 15) i_133_15 (rd_Ma_28 R) g4 ?_
  refine k_istore_n (pc := 16) (lo2 := [some (.ref (A lMo)), some (.int a1), some (.int a2), some (.int (gp M2 (lMa 28) ((a2 * 12) + r1).toNatClampNeg)), none, none]) i_133_16 (Nat.le_of_ble_eq_true rfl) rfl ?_
  refine k_aload_n (pc := 17) i_133_17 rfl rfl ?_
  refine k_iload_n (pc := 18) i_133_18 rfl ?_
  refine k_iconst (pc := 19) (v := 3) i_133_19 (by decide) ?_
  obtain ⟨r5, M6, q7, hF⟩ := kBd_el hF
  refine kcv_I (pc := 20) (As := [.ref (A lMo), .int a1, .int 3]) (st := []) (A := A) (T := T) (r := r5) (M1 := M6) i_133_20 m_7_166 rfl rfl rfl rfl (rd_Mo R) rfl (Nat.le_of_ble_eq_true rfl) (D_117 R q7) (fun h R => ?_)
  refine k_istore (pc := 23) (lo2 := [some (.ref (A lMo)), some (.int a1), some (.int a2), some (.int (gp M2 (lMa 28) ((a2 * 12) + r1).toNatClampNeg)), some (.int r5), none]) i_133_23 (Nat.le_of_ble_eq_true rfl) rfl ?_
  refine k_aload_n (pc := 25) i_133_25 rfl rfl ?_
  refine k_iload_n (pc := 26) i_133_26 rfl ?_
  refine k_iconst (pc := 27) (v := 2) i_133_27 (by decide) ?_
  obtain ⟨r8, M9, q10, hF⟩ := kBd_el hF
  refine kcv_I (pc := 28) (As := [.ref (A lMo), .int a1, .int 2]) (st := []) (A := A) (T := T) (r := r8) (M1 := M9) i_133_28 m_7_166 rfl rfl rfl rfl (rd_Mo R) rfl (Nat.le_of_ble_eq_true rfl) (D_117 R q10) (fun h R => ?_)
  refine k_istore (pc := 31) (lo2 := [some (.ref (A lMo)), some (.int a1), some (.int a2), some (.int (gp M2 (lMa 28) ((a2 * 12) + r1).toNatClampNeg)), some (.int r5), some (.int r8)]) i_133_31 (Nat.le_of_ble_eq_true rfl) rfl ?_
  refine k_iload (pc := 33) i_133_33 rfl ?_
  refine k_if_ne (pc := 35) (tgt := 52) i_133_35 (by decide) (fun c11 => ?_) (fun c11 => ?_)
  · rw [if_neg c11] at hF
    refine k_iload (pc := 52) i_133_52 rfl ?_
    refine k_iconst (pc := 54) (v := 1) i_133_54 (by decide) ?_
    refine k_icmp_ne (pc := 55) (tgt := 72) i_133_55 (by decide) (fun c12 => ?_) (fun c12 => ?_)
    · rw [if_neg c12] at hF
      refine k_iload (pc := 72) i_133_72 rfl ?_
      refine k_iconst (pc := 74) (v := 2) i_133_74 (by decide) ?_
      refine k_icmp_ne (pc := 75) (tgt := 92) i_133_75 (by decide) (fun c13 => ?_) (fun c13 => ?_)
      · rw [if_neg c13] at hF
        refine k_iload (pc := 92) i_133_92 rfl ?_
        refine k_iconst (pc := 94) (v := 3) i_133_94 (by decide) ?_
        refine k_icmp_ne (pc := 95) (tgt := 112) i_133_95 (by decide) (fun c14 => ?_) (fun c14 => ?_)
        · rw [if_neg c14] at hF
          refine k_iload (pc := 112) i_133_112 rfl ?_
          refine k_iconst (pc := 114) (v := 4) i_133_114 (by decide) ?_
          refine k_icmp_ne (pc := 115) (tgt := 132) i_133_115 (by decide) (fun c15 => ?_) (fun c15 => ?_)
          · rw [if_neg c15] at hF
            refine k_iload_n (pc := 132) i_133_132 rfl ?_
            refine k_iload (pc := 133) i_133_133 rfl ?_
            refine k_icmp_lt (pc := 135) (tgt := 142) i_133_135 (by decide) (fun c16 => ?_) (fun c16 => ?_)
            · rw [if_pos c16] at hF
              refine k_iconst (pc := 142) (v := 0) i_133_142 (by decide) ?_
              obtain rfl := Option.some.inj hF
              exact k_ireturn (pc := 143) i_133_143 rfl rfl (K _ R)
            · rw [if_neg c16] at hF
              refine k_iconst (pc := 138) (v := 1) i_133_138 (by decide) ?_
              refine k_goto (pc := 139) (tgt := 143) i_133_139 (by decide) ?_
              obtain rfl := Option.some.inj hF
              exact k_ireturn (pc := 143) i_133_143 rfl rfl (K _ R)
          · rw [if_pos c15] at hF
            refine k_iload_n (pc := 118) i_133_118 rfl ?_
            refine k_iload (pc := 119) i_133_119 rfl ?_
            refine k_icmp_le (pc := 121) (tgt := 128) i_133_121 (by decide) (fun c17 => ?_) (fun c17 => ?_)
            · rw [if_pos c17] at hF
              refine k_iconst (pc := 128) (v := 0) i_133_128 (by decide) ?_
              refine k_goto (pc := 129) (tgt := 143) i_133_129 (by decide) ?_
              obtain rfl := Option.some.inj hF
              exact k_ireturn (pc := 143) i_133_143 rfl rfl (K _ R)
            · rw [if_neg c17] at hF
              refine k_iconst (pc := 124) (v := 1) i_133_124 (by decide) ?_
              refine k_goto (pc := 125) (tgt := 143) i_133_125 (by decide) ?_
              obtain rfl := Option.some.inj hF
              exact k_ireturn (pc := 143) i_133_143 rfl rfl (K _ R)
        · rw [if_pos c14] at hF
          refine k_iload_n (pc := 98) i_133_98 rfl ?_
          refine k_iload (pc := 99) i_133_99 rfl ?_
          refine k_icmp_gt (pc := 101) (tgt := 108) i_133_101 (by decide) (fun c18 => ?_) (fun c18 => ?_)
          · rw [if_pos c18] at hF
            refine k_iconst (pc := 108) (v := 0) i_133_108 (by decide) ?_
            refine k_goto (pc := 109) (tgt := 143) i_133_109 (by decide) ?_
            obtain rfl := Option.some.inj hF
            exact k_ireturn (pc := 143) i_133_143 rfl rfl (K _ R)
          · rw [if_neg c18] at hF
            refine k_iconst (pc := 104) (v := 1) i_133_104 (by decide) ?_
            refine k_goto (pc := 105) (tgt := 143) i_133_105 (by decide) ?_
            obtain rfl := Option.some.inj hF
            exact k_ireturn (pc := 143) i_133_143 rfl rfl (K _ R)
      · rw [if_pos c13] at hF
        refine k_iload_n (pc := 78) i_133_78 rfl ?_
        refine k_iload (pc := 79) i_133_79 rfl ?_
        refine k_icmp_ge (pc := 81) (tgt := 88) i_133_81 (by decide) (fun c19 => ?_) (fun c19 => ?_)
        · rw [if_pos c19] at hF
          refine k_iconst (pc := 88) (v := 0) i_133_88 (by decide) ?_
          refine k_goto (pc := 89) (tgt := 143) i_133_89 (by decide) ?_
          obtain rfl := Option.some.inj hF
          exact k_ireturn (pc := 143) i_133_143 rfl rfl (K _ R)
        · rw [if_neg c19] at hF
          refine k_iconst (pc := 84) (v := 1) i_133_84 (by decide) ?_
          refine k_goto (pc := 85) (tgt := 143) i_133_85 (by decide) ?_
          obtain rfl := Option.some.inj hF
          exact k_ireturn (pc := 143) i_133_143 rfl rfl (K _ R)
    · rw [if_pos c12] at hF
      refine k_iload_n (pc := 58) i_133_58 rfl ?_
      refine k_iload (pc := 59) i_133_59 rfl ?_
      refine k_icmp_eq (pc := 61) (tgt := 68) i_133_61 (by decide) (fun c20 => ?_) (fun c20 => ?_)
      · rw [if_pos c20] at hF
        refine k_iconst (pc := 68) (v := 0) i_133_68 (by decide) ?_
        refine k_goto (pc := 69) (tgt := 143) i_133_69 (by decide) ?_
        obtain rfl := Option.some.inj hF
        exact k_ireturn (pc := 143) i_133_143 rfl rfl (K _ R)
      · rw [if_neg c20] at hF
        refine k_iconst (pc := 64) (v := 1) i_133_64 (by decide) ?_
        refine k_goto (pc := 65) (tgt := 143) i_133_65 (by decide) ?_
        obtain rfl := Option.some.inj hF
        exact k_ireturn (pc := 143) i_133_143 rfl rfl (K _ R)
  · rw [if_pos c11] at hF
    refine k_iload_n (pc := 38) i_133_38 rfl ?_
    refine k_iload (pc := 39) i_133_39 rfl ?_
    refine k_icmp_ne (pc := 41) (tgt := 48) i_133_41 (by decide) (fun c21 => ?_) (fun c21 => ?_)
    · rw [if_neg c21] at hF
      refine k_iconst (pc := 48) (v := 0) i_133_48 (by decide) ?_
      refine k_goto (pc := 49) (tgt := 143) i_133_49 (by decide) ?_
      obtain rfl := Option.some.inj hF
      exact k_ireturn (pc := 143) i_133_143 rfl rfl (K _ R)
    · rw [if_pos c21] at hF
      refine k_iconst (pc := 44) (v := 1) i_133_44 (by decide) ?_
      refine k_goto (pc := 45) (tgt := 143) i_133_45 (by decide) ?_
      obtain rfl := Option.some.inj hF
      exact k_ireturn (pc := 143) i_133_143 rfl rfl (K _ R)
-- 132: RDModel pairs
noncomputable def F_132_203 (T : kT) (a1 : Int32) (a2 : Int32) (a3 : Int32) (a4 : Int32) (s0 : Int32) (s1 : Int32) (M : kM) : Option ((Int32 × kM) ⊕ (Unit × kM)) :=
  kGx s1 720 (some (.inl ((a4 + 1), sp M (lMa 28) s1.toNatClampNeg s0)))
set_option maxHeartbeats 1000000 in
theorem W_132_203 {G : kG} {d : Nat} {A : kLb → Nat} {C : kCl} {P : kO → kH → Prop} {T : kT} {M : kM} {h : kH} {a1 : Int32} {a2 : Int32} {a3 : Int32} {a4 : Int32} {s0 : Int32} {s1 : Int32} {z : ((Int32 × kM) ⊕ (Unit × kM))} (hC : C = kRun G (d + 2)) (R : kRl A T M h) (K : (Sum.elim (fun w : (Int32 × kM) => ∀ (h : kH), kRl A T w.2 h → kWP G 132 C P 146 [some (.ref (A lMo)), some (.int a1), some (.int a2), some (.int a3), some (.int w.1)] [] h 0 0) (fun z : (Unit × kM) => ∀ h1, kRl A T z.2 h1 → P (.inl none) h1)) z) (hF : F_132_203 T a1 a2 a3 a4 s0 s1 M = some z) : kWP G 132 C P 203 [some (.ref (A lMo)), some (.int a1), some (.int a2), some (.int a3), some (.int a4)] [.int s0, .int s1, .ref (A (lMa 28))] h 0 0 := by
  unfold F_132_203 at hF
  obtain ⟨g16, hF⟩ := kGx_el hF
  refine k_iast (pc := 203) i_132_203 (rd_Ma_28 R) g16 (fun h e17 => ?_)
  replace R := kRl_sp (l := (lMa 28)) (k := s1.toNatClampNeg) (v := s0) R rfl e17
  clear e17
  refine k_iinc (pc := 204) (v := a4 + 1) (lo2 := [some (.ref (A lMo)), some (.int a1), some (.int a2), some (.int a3), some (.int (a4 + 1))]) i_132_204 rfl rfl rfl ?_
  refine k_goto (pc := 207) (tgt := 146) i_132_207 (by decide) ?_
  obtain rfl := Option.some.inj hF
  exact K _ R
noncomputable def B_132_146 (T : kT) (a1 : Int32) (a2 : Int32) (a3 : Int32) (a4 : Int32) (M : kM) : Option ((Int32 × kM) ⊕ (Unit × kM)) :=
  kGx a1 60 (if (gp M (lMa 21) a1.toNatClampNeg) ≤ a4 then (kBd (F_124 T a1 1 M) (fun r11 M12 => some (.inr (((), M12))))) else (if a3 ≤ a4 then (kGx (((a2 * 12) + a4) - a3) 720 (F_132_203 T a1 a2 a3 a4 (gp M (lMa 28) (((a2 * 12) + a4) - a3).toNatClampNeg) ((a1 * 12) + a4) M)) else (kGx ((a1 * 12) + a4) 720 (F_132_203 T a1 a2 a3 a4 (gp M (lMa 29) ((a1 * 12) + a4).toNatClampNeg) ((a1 * 12) + a4) M))))
noncomputable def F_132_146 (T : kT) (a1 : Int32) (a2 : Int32) (a3 : Int32) (a4 : Int32) (M : kM) : Option (Unit × kM) :=
  kWh (fun w : (Int32 × kM) => B_132_146 T a1 a2 a3 w.1 w.2) (a4, M)
theorem F_132_146_eq (T : kT) (a1 : Int32) (a2 : Int32) (a3 : Int32) (a4 : Int32) (M : kM) : F_132_146 T a1 a2 a3 a4 M = kAg (B_132_146 T a1 a2 a3 a4 M) (fun w => F_132_146 T a1 a2 a3 w.1 w.2) := by
  unfold F_132_146
  rw [kWh_eq]
set_option maxHeartbeats 1000000 in
theorem W_132_146 {G : kG} {d : Nat} {A : kLb → Nat} {C : kCl} {P : kO → kH → Prop} {T : kT} {M : kM} {h : kH} {a1 : Int32} {a2 : Int32} {a3 : Int32} {a4 : Int32} {z : (Unit × kM)} (hC : C = kRun G (d + 2)) (R : kRl A T M h) (K : (fun z : (Unit × kM) => ∀ h1, kRl A T z.2 h1 → P (.inl none) h1) z) (hF : F_132_146 T a1 a2 a3 a4 M = some z) : kWP G 132 C P 146 [some (.ref (A lMo)), some (.int a1), some (.int a2), some (.int a3), some (.int a4)] [] h 0 0 := by
  refine kWh_ind (P := (fun w : (Int32 × kM) => ∀ (h : kH), kRl A T w.2 h → kWP G 132 C P 146 [some (.ref (A lMo)), some (.int a1), some (.int a2), some (.int a3), some (.int w.1)] [] h 0 0)) (Q := (fun z : (Unit × kM) => ∀ h1, kRl A T z.2 h1 → P (.inl none) h1)) hF K ?_ h R
  clear hF K R
  intro w z hF K h R
  obtain ⟨a4, M⟩ := w
  change B_132_146 T a1 a2 a3 a4 M = some z at hF
  change kWP G 132 C P 146 [some (.ref (A lMo)), some (.int a1), some (.int a2), some (.int a3), some (.int a4)] [] h 0 0
  unfold B_132_146 at hF
  refine k_iload (pc := 146) i_132_146 rfl ?_
  refine k_aload_n (pc := 148) i_132_148 rfl rfl ?_
  refine k_getf (pc := 149) i_132_149 f_7_54 (rd_Mo R) rfl ?_
  refine k_iload_n (pc := 152) i_132_152 rfl ?_
  obtain ⟨g9, hF⟩ := kGx_el hF
  refine k_iald (pc := 153) i_132_153 (rd_Ma_21 R) g9 ?_
  refine k_icmp_ge (pc := 154) (tgt := 210) i_132_154 (by decide) (fun c10 => ?_) (fun c10 => ?_)
  · rw [if_pos c10] at hF
    refine k_aload_n (pc := 210) i_132_210 rfl rfl ?_
    refine k_iload_n (pc := 211) i_132_211 rfl ?_
    refine k_iconst (pc := 212) (v := 1) i_132_212 (by decide) ?_
    obtain ⟨r11, M12, q13, hF⟩ := kBd_el hF
    refine kcv_V (pc := 213) (As := [.ref (A lMo), .int a1, .int 1]) (st := []) (A := A) (T := T) (r := r11) (M1 := M12) i_132_213 m_7_190 rfl rfl rfl rfl (rd_Mo R) rfl (Nat.le_of_ble_eq_true rfl) (hC ▸ D_124 R q13) (fun h R => ?_)
    obtain rfl := Option.some.inj hF
    exact k_return (pc := 216) i_132_216 rfl (K _ R)
  · rw [if_neg c10] at hF
    refine k_aload_n (pc := 157) i_132_157 rfl rfl ?_
    refine k_getf (pc := 158) i_132_158 f_7_64 (rd_Mo R) rfl ?_
    refine k_iload_n (pc := 161) i_132_161 rfl ?_
    refine k_bipush (pc := 162) (v := 12) i_132_162 (by decide) ?_
    refine k_imul (pc := 164) i_132_164 ?_
    refine k_iload (pc := 165) i_132_165 rfl ?_
    refine k_iadd (pc := 167) i_132_167 ?_
    refine k_iload (pc := 168) i_132_168 rfl ?_
    refine k_iload_n (pc := 170) i_132_170 rfl ?_
    refine k_icmp_ge (pc := 171) (tgt := 189) i_132_171 (by decide) (fun c14 => ?_) (fun c14 => ?_)
    · rw [if_pos c14] at hF
      refine k_aload_n (pc := 189) i_132_189 rfl rfl ?_
      refine k_getf (pc := 190) i_132_190 f_7_64 (rd_Mo R) rfl ?_
      refine k_iload_n (pc := 193) i_132_193 rfl ?_
      refine k_bipush (pc := 194) (v := 12) i_132_194 (by decide) ?_
      refine k_imul (pc := 196) i_132_196 ?_
      refine k_iload (pc := 197) i_132_197 rfl ?_
      refine k_iadd (pc := 199) i_132_199 ?_
      refine k_iload_n (pc := 200) i_132_200 rfl ?_
      refine k_isub (pc := 201) i_132_201 ?_
      obtain ⟨g15, hF⟩ := kGx_el hF
      refine k_iald (pc := 202) i_132_202 (rd_Ma_28 R) g15 ?_
      exact W_132_203 (d := d) hC R K hF
    · rw [if_neg c14] at hF
      refine k_aload_n (pc := 174) i_132_174 rfl rfl ?_
      refine k_getf (pc := 175) i_132_175 f_7_67 (rd_Mo R) rfl ?_
      refine k_iload_n (pc := 178) i_132_178 rfl ?_
      refine k_bipush (pc := 179) (v := 12) i_132_179 (by decide) ?_
      refine k_imul (pc := 181) i_132_181 ?_
      refine k_iload (pc := 182) i_132_182 rfl ?_
      refine k_iadd (pc := 184) i_132_184 ?_
      obtain ⟨g16, hF⟩ := kGx_el hF
      refine k_iald (pc := 185) i_132_185 (rd_Ma_29 R) g16 ?_
      refine k_goto (pc := 186) (tgt := 203) i_132_186 (by decide) ?_
      exact W_132_203 (d := d) hC R K hF
noncomputable def B_132_25 (T : kT) (a1 : Int32) (a2 : Int32) (a3 : Int32) (a4 : Int32) (M : kM) : Option ((Int32 × kM) ⊕ (Unit × kM)) :=
  if a3 ≤ a4 then (kGx a1 60 (kGx a1 60 (kBd (F_122 T (gp (sp M (lMa 39) a1.toNatClampNeg 1) (lMa 20) a1.toNatClampNeg) (sp M (lMa 39) a1.toNatClampNeg 1)) (fun r25 M26 => kGx a1 60 (kBd (F_123 T (gp M26 (lMa 20) a1.toNatClampNeg) M26) (fun r29 M30 => some (.inr (((), M30))))))))) else (kGx ((a2 * 12) + a4) 720 (kGx ((a1 * 12) + a4) 720 (some (.inl ((a4 + 1), sp M (lMa 29) ((a1 * 12) + a4).toNatClampNeg (gp M (lMa 28) ((a2 * 12) + a4).toNatClampNeg))))))
noncomputable def F_132_25 (T : kT) (a1 : Int32) (a2 : Int32) (a3 : Int32) (a4 : Int32) (M : kM) : Option (Unit × kM) :=
  kWh (fun w : (Int32 × kM) => B_132_25 T a1 a2 a3 w.1 w.2) (a4, M)
theorem F_132_25_eq (T : kT) (a1 : Int32) (a2 : Int32) (a3 : Int32) (a4 : Int32) (M : kM) : F_132_25 T a1 a2 a3 a4 M = kAg (B_132_25 T a1 a2 a3 a4 M) (fun w => F_132_25 T a1 a2 a3 w.1 w.2) := by
  unfold F_132_25
  rw [kWh_eq]
set_option maxHeartbeats 1000000 in
theorem W_132_25 {G : kG} {d : Nat} {A : kLb → Nat} {C : kCl} {P : kO → kH → Prop} {T : kT} {M : kM} {h : kH} {a1 : Int32} {a2 : Int32} {a3 : Int32} {a4 : Int32} {z : (Unit × kM)} (hC : C = kRun G (d + 2)) (R : kRl A T M h) (K : (fun z : (Unit × kM) => ∀ h1, kRl A T z.2 h1 → P (.inl none) h1) z) (hF : F_132_25 T a1 a2 a3 a4 M = some z) : kWP G 132 C P 25 [some (.ref (A lMo)), some (.int a1), some (.int a2), some (.int a3), some (.int a4)] [] h 0 0 := by
  refine kWh_ind (P := (fun w : (Int32 × kM) => ∀ (h : kH), kRl A T w.2 h → kWP G 132 C P 25 [some (.ref (A lMo)), some (.int a1), some (.int a2), some (.int a3), some (.int w.1)] [] h 0 0)) (Q := (fun z : (Unit × kM) => ∀ h1, kRl A T z.2 h1 → P (.inl none) h1)) hF K ?_ h R
  clear hF K R
  intro w z hF K h R
  obtain ⟨a4, M⟩ := w
  change B_132_25 T a1 a2 a3 a4 M = some z at hF
  change kWP G 132 C P 25 [some (.ref (A lMo)), some (.int a1), some (.int a2), some (.int a3), some (.int a4)] [] h 0 0
  unfold B_132_25 at hF
  refine k_iload (pc := 25) i_132_25 rfl ?_
  refine k_iload_n (pc := 27) i_132_27 rfl ?_
  refine k_icmp_ge (pc := 28) (tgt := 61) i_132_28 (by decide) (fun c21 => ?_) (fun c21 => ?_)
  · rw [if_pos c21] at hF
    refine k_aload_n (pc := 61) i_132_61 rfl rfl ?_
    refine k_getf (pc := 62) i_132_62 f_7_85 (rd_Mo R) rfl ?_
    refine k_iload_n (pc := 65) i_132_65 rfl ?_
    refine k_iconst (pc := 66) (v := 1) i_132_66 (by decide) ?_
    obtain ⟨g22, hF⟩ := kGx_el hF
    refine k_zast (pc := 67) i_132_67 (rd_Ma_39 R) g22 (fun h e23 => ?_)
    replace R := kRl_sp (l := (lMa 39)) (k := a1.toNatClampNeg) (v := 1) R rfl e23
    clear e23
    refine k_aload_n (pc := 68) i_132_68 rfl rfl ?_
    refine k_aload_n (pc := 69) i_132_69 rfl rfl ?_
    refine k_getf (pc := 70) i_132_70 f_7_51 (rd_Mo R) rfl ?_
    refine k_iload_n (pc := 73) i_132_73 rfl ?_
    obtain ⟨g24, hF⟩ := kGx_el hF
    refine k_iald (pc := 74) i_132_74 (rd_Ma_20 R) g24 ?_
    obtain ⟨r25, M26, q27, hF⟩ := kBd_el hF
    refine kcv_V (pc := 75) (As := [.ref (A lMo), .int (gp (sp M (lMa 39) a1.toNatClampNeg 1) (lMa 20) a1.toNatClampNeg)]) (st := []) (A := A) (T := T) (r := r25) (M1 := M26) i_132_75 m_7_184 rfl rfl rfl rfl (rd_Mo R) rfl (Nat.le_of_ble_eq_true rfl) (hC ▸ D_122 R q27) (fun h R => ?_)
    refine k_aload_n (pc := 78) i_132_78 rfl rfl ?_
    refine k_aload_n (pc := 79) i_132_79 rfl rfl ?_
    refine k_getf (pc := 80) i_132_80 f_7_51 (rd_Mo R) rfl ?_
    refine k_iload_n (pc := 83) i_132_83 rfl ?_
    obtain ⟨g28, hF⟩ := kGx_el hF
    refine k_iald (pc := 84) i_132_84 (rd_Ma_20 R) g28 ?_
    obtain ⟨r29, M30, q31, hF⟩ := kBd_el hF
    refine kcv_V (pc := 85) (As := [.ref (A lMo), .int (gp M26 (lMa 20) a1.toNatClampNeg)]) (st := []) (A := A) (T := T) (r := r29) (M1 := M30) i_132_85 m_7_203 rfl rfl rfl rfl (rd_Mo R) rfl (Nat.le_of_ble_eq_true rfl) (hC ▸ D_123 R q31) (fun h R => ?_)
    refine k_goto (pc := 88) (tgt := 216) i_132_88 (by decide) ?_
    obtain rfl := Option.some.inj hF
    exact k_return (pc := 216) i_132_216 rfl (K _ R)
  · rw [if_neg c21] at hF
    refine k_aload_n (pc := 31) i_132_31 rfl rfl ?_
    refine k_getf (pc := 32) i_132_32 f_7_67 (rd_Mo R) rfl ?_
    refine k_iload_n (pc := 35) i_132_35 rfl ?_
    refine k_bipush (pc := 36) (v := 12) i_132_36 (by decide) ?_
    refine k_imul (pc := 38) i_132_38 ?_
    refine k_iload (pc := 39) i_132_39 rfl ?_
    refine k_iadd (pc := 41) i_132_41 ?_
    refine k_aload_n (pc := 42) i_132_42 rfl rfl ?_
    refine k_getf (pc := 43) i_132_43 f_7_64 (rd_Mo R) rfl ?_
    refine k_iload_n (pc := 46) i_132_46 rfl ?_
    refine k_bipush (pc := 47) (v := 12) i_132_47 (by decide) ?_
    refine k_imul (pc := 49) i_132_49 ?_
    refine k_iload (pc := 50) i_132_50 rfl ?_
    refine k_iadd (pc := 52) i_132_52 ?_
    obtain ⟨g32, hF⟩ := kGx_el hF
    refine k_iald (pc := 53) i_132_53 (rd_Ma_28 R) g32 ?_
    obtain ⟨g33, hF⟩ := kGx_el hF
    refine k_iast (pc := 54) i_132_54 (rd_Ma_29 R) g33 (fun h e34 => ?_)
    replace R := kRl_sp (l := (lMa 29)) (k := ((a1 * 12) + a4).toNatClampNeg) (v := gp M (lMa 28) ((a2 * 12) + a4).toNatClampNeg) R rfl e34
    clear e34
    refine k_iinc (pc := 55) (v := a4 + 1) (lo2 := [some (.ref (A lMo)), some (.int a1), some (.int a2), some (.int a3), some (.int (a4 + 1))]) i_132_55 rfl rfl rfl ?_
    refine k_goto (pc := 58) (tgt := 25) i_132_58 (by decide) ?_
    obtain rfl := Option.some.inj hF
    exact K _ R
noncomputable def F_132 (T : kT) (a1 : Int32) (a2 : Int32) (M : kM) : Option (Unit × kM) :=
  kGx a1 60 (kGx (gp M (lMa 19) a1.toNatClampNeg) 60 (kGx a1 60 (if a2 = (gp M (lMa 19) a1.toNatClampNeg) then (F_132_25 T a1 a2 (gp M (lMa 21) (gp M (lMa 19) a1.toNatClampNeg).toNatClampNeg) 0 M) else (kBd (F_118 T a1 M) (fun r5 M6 => if r5 = 4 then (kBd (F_117 T a1 1 M6) (fun r9 M10 => kGx ((a1 * 12) + r9) 720 (kBd (F_117 T a1 2 M10) (fun r13 M14 => kGx ((a2 * 12) + r13) 720 (if (gp M10 (lMa 29) ((a1 * 12) + r9).toNatClampNeg) = (gp M14 (lMa 28) ((a2 * 12) + r13).toNatClampNeg) then (F_132_146 T a1 a2 (gp M (lMa 21) (gp M (lMa 19) a1.toNatClampNeg).toNatClampNeg) 0 M14) else (kBd (F_123 T a2 M14) (fun r18 M19 => some ((), M19)))))))) else (F_132_146 T a1 a2 (gp M (lMa 21) (gp M (lMa 19) a1.toNatClampNeg).toNatClampNeg) 0 M6))))))
set_option maxHeartbeats 1000000 in
theorem D_132 {G : kG} {d : Nat} {A : kLb → Nat} {T : kT} {M : kM} {h : kH} {a1 : Int32} {a2 : Int32} {z : (Unit × kM)} (R : kRl A T M h) (hF : F_132 T a1 a2 M = some z) : kRun G (d + 3) 132 [.ref (A lMo), .int a1, .int a2] h 0 0 (kPV A T z) := by
  refine ⟨⟨rfl, Nat.le_of_ble_eq_true rfl⟩, ?_⟩
  show kWP _ _ (kRun G (d + 2)) _ 0 [some (.ref (A lMo)), some (.int a1), some (.int a2), none, none] [] _ _ _
  have K : (fun z : (Unit × kM) => ∀ h1, kRl A T z.2 h1 → kPV A T z (.inl none) h1) z := fun _ q => ⟨rfl, q⟩
  unfold F_132 at hF
  refine k_aload_n (pc := 0) i_132_0 rfl rfl ?_
  refine k_getf (pc := 1) i_132_1 f_7_54 (rd_Mo R) rfl ?_
  refine k_aload_n (pc := 4) i_132_4 rfl rfl ?_
  refine k_getf (pc := 5) i_132_5 f_7_48 (rd_Mo R) rfl ?_
  refine k_iload_n (pc := 8) i_132_8 rfl ?_
  obtain ⟨g1, hF⟩ := kGx_el hF
  refine k_iald (pc := 9) i_132_9 (rd_Ma_19 R) g1 ?_
  obtain ⟨g2, hF⟩ := kGx_el hF
  refine k_iald (pc := 10) i_132_10 (rd_Ma_21 R) g2 ?_
  refine k_istore_n (pc := 11) (lo2 := [some (.ref (A lMo)), some (.int a1), some (.int a2), some (.int (gp M (lMa 21) (gp M (lMa 19) a1.toNatClampNeg).toNatClampNeg)), none]) i_132_11 (Nat.le_of_ble_eq_true rfl) rfl ?_
  refine k_iload_n (pc := 12) i_132_12 rfl ?_
  refine k_aload_n (pc := 13) i_132_13 rfl rfl ?_
  refine k_getf (pc := 14) i_132_14 f_7_48 (rd_Mo R) rfl ?_
  refine k_iload_n (pc := 17) i_132_17 rfl ?_
  obtain ⟨g3, hF⟩ := kGx_el hF
  refine k_iald (pc := 18) i_132_18 (rd_Ma_19 R) g3 ?_
  refine k_icmp_ne (pc := 19) (tgt := 91) i_132_19 (by decide) (fun c4 => ?_) (fun c4 => ?_)
  · rw [if_neg c4] at hF
    refine k_aload_n (pc := 91) i_132_91 rfl rfl ?_
    refine k_iload_n (pc := 92) i_132_92 rfl ?_
    obtain ⟨r5, M6, q7, hF⟩ := kBd_el hF
    refine kcv_I (pc := 93) (As := [.ref (A lMo), .int a1]) (st := []) (A := A) (T := T) (r := r5) (M1 := M6) i_132_93 m_7_155 rfl rfl rfl rfl (rd_Mo R) rfl (Nat.le_of_ble_eq_true rfl) (D_118 R q7) (fun h R => ?_)
    refine k_iconst (pc := 96) (v := 4) i_132_96 (by decide) ?_
    refine k_icmp_ne (pc := 97) (tgt := 143) i_132_97 (by decide) (fun c8 => ?_) (fun c8 => ?_)
    · rw [if_neg c8] at hF
      refine k_iconst (pc := 143) (v := 0) i_132_143 (by decide) ?_
      refine k_istore (pc := 144) (lo2 := [some (.ref (A lMo)), some (.int a1), some (.int a2), some (.int (gp M (lMa 21) (gp M (lMa 19) a1.toNatClampNeg).toNatClampNeg)), some (.int 0)]) i_132_144 (Nat.le_of_ble_eq_true rfl) rfl ?_
      exact W_132_146 (d := d) rfl R K hF
    · rw [if_pos c8] at hF
      refine k_aload_n (pc := 100) i_132_100 rfl rfl ?_
      refine k_getf (pc := 101) i_132_101 f_7_67 (rd_Mo R) rfl ?_
      refine k_iload_n (pc := 104) i_132_104 rfl ?_
      refine k_bipush (pc := 105) (v := 12) i_132_105 (by decide) ?_
      refine k_imul (pc := 107) i_132_107 ?_
      refine k_aload_n (pc := 108) i_132_108 rfl rfl ?_
      refine k_iload_n (pc := 109) i_132_109 rfl ?_
      refine k_iconst (pc := 110) (v := 1) i_132_110 (by decide) ?_
      obtain ⟨r9, M10, q11, hF⟩ := kBd_el hF
      refine kcv_I (pc := 111) (As := [.ref (A lMo), .int a1, .int 1]) (st := [.int (a1 * 12), .ref (A (lMa 29))]) (A := A) (T := T) (r := r9) (M1 := M10) i_132_111 m_7_166 rfl rfl rfl rfl (rd_Mo R) rfl (Nat.le_of_ble_eq_true rfl) (D_117 R q11) (fun h R => ?_)
      refine k_iadd (pc := 114) i_132_114 ?_
      obtain ⟨g12, hF⟩ := kGx_el hF
      refine k_iald (pc := 115) i_132_115 (rd_Ma_29 R) g12 ?_
      refine k_aload_n (pc := 116) i_132_116 rfl rfl ?_
      refine k_getf (pc := 117) i_132_117 f_7_64 (rd_Mo R) rfl ?_
      refine k_iload_n (pc := 120) i_132_120 rfl ?_
      refine k_bipush (pc := 121) (v := 12) i_132_121 (by decide) ?_
      refine k_imul (pc := 123) i_132_123 ?_
      refine k_aload_n (pc := 124) i_132_124 rfl rfl ?_
      refine k_iload_n (pc := 125) i_132_125 rfl ?_
      refine k_iconst (pc := 126) (v := 2) i_132_126 (by decide) ?_
      obtain ⟨r13, M14, q15, hF⟩ := kBd_el hF
      refine kcv_I (pc := 127) (As := [.ref (A lMo), .int a1, .int 2]) (st := [.int (a2 * 12), .ref (A (lMa 28)), .int (gp M10 (lMa 29) ((a1 * 12) + r9).toNatClampNeg)]) (A := A) (T := T) (r := r13) (M1 := M14) i_132_127 m_7_166 rfl rfl rfl rfl (rd_Mo R) rfl (Nat.le_of_ble_eq_true rfl) (D_117 R q15) (fun h R => ?_)
      refine k_iadd (pc := 130) i_132_130 ?_
      obtain ⟨g16, hF⟩ := kGx_el hF
      refine k_iald (pc := 131) i_132_131 (rd_Ma_28 R) g16 ?_
      refine k_icmp_eq (pc := 132) (tgt := 143) i_132_132 (by decide) (fun c17 => ?_) (fun c17 => ?_)
      · rw [if_pos c17] at hF
        refine k_iconst (pc := 143) (v := 0) i_132_143 (by decide) ?_
        refine k_istore (pc := 144) (lo2 := [some (.ref (A lMo)), some (.int a1), some (.int a2), some (.int (gp M (lMa 21) (gp M (lMa 19) a1.toNatClampNeg).toNatClampNeg)), some (.int 0)]) i_132_144 (Nat.le_of_ble_eq_true rfl) rfl ?_
        exact W_132_146 (d := d) rfl R K hF
      · rw [if_neg c17] at hF
        refine k_aload_n (pc := 135) i_132_135 rfl rfl ?_
        refine k_iload_n (pc := 136) i_132_136 rfl ?_
        obtain ⟨r18, M19, q20, hF⟩ := kBd_el hF
        refine kcv_V (pc := 137) (As := [.ref (A lMo), .int a2]) (st := []) (A := A) (T := T) (r := r18) (M1 := M19) i_132_137 m_7_203 rfl rfl rfl rfl (rd_Mo R) rfl (Nat.le_of_ble_eq_true rfl) (D_123 R q20) (fun h R => ?_)
        refine k_goto (pc := 140) (tgt := 216) i_132_140 (by decide) ?_
        obtain rfl := Option.some.inj hF
        exact k_return (pc := 216) i_132_216 rfl (K _ R)
  · rw [if_pos c4] at hF
    refine k_iconst (pc := 22) (v := 0) i_132_22 (by decide) ?_
    refine k_istore (pc := 23) (lo2 := [some (.ref (A lMo)), some (.int a1), some (.int a2), some (.int (gp M (lMa 21) (gp M (lMa 19) a1.toNatClampNeg).toNatClampNeg)), some (.int 0)]) i_132_23 (Nat.le_of_ble_eq_true rfl) rfl ?_
    exact W_132_25 (d := d) rfl R K hF
-- 135: RDModel isKept
noncomputable def B_135_3 (T : kT) (a1 : Int32) (a2 : Int32) (a3 : Int32) (a4 : Int32) (M : kM) : Option ((Int32 × kM) ⊕ (Int32 × kM)) :=
  kGx a3 60 (if (gp M (lMa 21) a3.toNatClampNeg) ≤ a4 then (some (.inr ((1, M)))) else (kGx ((((a1 * 150) + a2) * 12) + a4) 108000 (kGx ((a3 * 12) + a4) 720 (if (gp M (lMa 27) ((((a1 * 150) + a2) * 12) + a4).toNatClampNeg) = (gp M (lMa 28) ((a3 * 12) + a4).toNatClampNeg) then (some (.inl ((a4 + 1), M))) else (some (.inr ((0, M))))))))
noncomputable def F_135_3 (T : kT) (a1 : Int32) (a2 : Int32) (a3 : Int32) (a4 : Int32) (M : kM) : Option (Int32 × kM) :=
  kWh (fun w : (Int32 × kM) => B_135_3 T a1 a2 a3 w.1 w.2) (a4, M)
theorem F_135_3_eq (T : kT) (a1 : Int32) (a2 : Int32) (a3 : Int32) (a4 : Int32) (M : kM) : F_135_3 T a1 a2 a3 a4 M = kAg (B_135_3 T a1 a2 a3 a4 M) (fun w => F_135_3 T a1 a2 a3 w.1 w.2) := by
  unfold F_135_3
  rw [kWh_eq]
set_option maxHeartbeats 1000000 in
theorem W_135_3 {G : kG} {d : Nat} {A : kLb → Nat} {C : kCl} {P : kO → kH → Prop} {T : kT} {M : kM} {h : kH} {a1 : Int32} {a2 : Int32} {a3 : Int32} {a4 : Int32} {z : (Int32 × kM)} (hC : C = kRun G (d + 0)) (R : kRl A T M h) (K : (fun z : (Int32 × kM) => ∀ h1, kRl A T z.2 h1 → P (.inl (some (.int z.1))) h1) z) (hF : F_135_3 T a1 a2 a3 a4 M = some z) : kWP G 135 C P 3 [some (.ref (A lMo)), some (.int a1), some (.int a2), some (.int a3), some (.int a4)] [] h 0 0 := by
  refine kWh_ind (P := (fun w : (Int32 × kM) => ∀ (h : kH), kRl A T w.2 h → kWP G 135 C P 3 [some (.ref (A lMo)), some (.int a1), some (.int a2), some (.int a3), some (.int w.1)] [] h 0 0)) (Q := (fun z : (Int32 × kM) => ∀ h1, kRl A T z.2 h1 → P (.inl (some (.int z.1))) h1)) hF K ?_ h R
  clear hF K R
  intro w z hF K h R
  obtain ⟨a4, M⟩ := w
  change B_135_3 T a1 a2 a3 a4 M = some z at hF
  change kWP G 135 C P 3 [some (.ref (A lMo)), some (.int a1), some (.int a2), some (.int a3), some (.int a4)] [] h 0 0
  unfold B_135_3 at hF
  refine k_iload (pc := 3) i_135_3 rfl ?_
  refine k_aload_n (pc := 5) i_135_5 rfl rfl ?_
  refine k_getf (pc := 6) i_135_6 f_7_54 (rd_Mo R) rfl ?_
  refine k_iload_n (pc := 9) i_135_9 rfl ?_
  obtain ⟨g1, hF⟩ := kGx_el hF
  refine k_iald (pc := 10) i_135_10 (rd_Ma_21 R) g1 ?_
  refine k_icmp_ge (pc := 11) (tgt := 55) i_135_11 (by decide) (fun c2 => ?_) (fun c2 => ?_)
  · rw [if_pos c2] at hF
    refine k_iconst (pc := 55) (v := 1) i_135_55 (by decide) ?_
    obtain rfl := Option.some.inj hF
    exact k_ireturn (pc := 56) i_135_56 rfl rfl (K _ R)
  · rw [if_neg c2] at hF
    refine k_aload_n (pc := 14) i_135_14 rfl rfl ?_
    refine k_getf (pc := 15) i_135_15 f_7_61 (rd_Mo R) rfl ?_
    refine k_iload_n (pc := 18) i_135_18 rfl ?_
    refine k_sipush (pc := 19) (v := 150) i_135_19 (by decide) ?_
    refine k_imul (pc := 22) i_135_22 ?_
    refine k_iload_n (pc := 23) i_135_23 rfl ?_
    refine k_iadd (pc := 24) i_135_24 ?_
    refine k_bipush (pc := 25) (v := 12) i_135_25 (by decide) ?_
    refine k_imul (pc := 27) i_135_27 ?_
    refine k_iload (pc := 28) i_135_28 rfl ?_
    refine k_iadd (pc := 30) i_135_30 ?_
    obtain ⟨g3, hF⟩ := kGx_el hF
    refine k_iald (pc := 31) i_135_31 (rd_Ma_27 R) g3 ?_
    refine k_aload_n (pc := 32) i_135_32 rfl rfl ?_
    refine k_getf (pc := 33) i_135_33 f_7_64 (rd_Mo R) rfl ?_
    refine k_iload_n (pc := 36) i_135_36 rfl ?_
    refine k_bipush (pc := 37) (v := 12) i_135_37 (by decide) ?_
    refine k_imul (pc := 39) i_135_39 ?_
    refine k_iload (pc := 40) i_135_40 rfl ?_
    refine k_iadd (pc := 42) i_135_42 ?_
    obtain ⟨g4, hF⟩ := kGx_el hF
    refine k_iald (pc := 43) i_135_43 (rd_Ma_28 R) g4 ?_
    refine k_icmp_eq (pc := 44) (tgt := 49) i_135_44 (by decide) (fun c5 => ?_) (fun c5 => ?_)
    · rw [if_pos c5] at hF
      refine k_iinc (pc := 49) (v := a4 + 1) (lo2 := [some (.ref (A lMo)), some (.int a1), some (.int a2), some (.int a3), some (.int (a4 + 1))]) i_135_49 rfl rfl rfl ?_
      refine k_goto (pc := 52) (tgt := 3) i_135_52 (by decide) ?_
      obtain rfl := Option.some.inj hF
      exact K _ R
    · rw [if_neg c5] at hF
      refine k_iconst (pc := 47) (v := 0) i_135_47 (by decide) ?_
      obtain rfl := Option.some.inj hF
      exact k_ireturn (pc := 48) i_135_48 rfl rfl (K _ R)
noncomputable def F_135 (T : kT) (a1 : Int32) (a2 : Int32) (a3 : Int32) (M : kM) : Option (Int32 × kM) :=
  F_135_3 T a1 a2 a3 0 M
set_option maxHeartbeats 1000000 in
theorem D_135 {G : kG} {d : Nat} {A : kLb → Nat} {T : kT} {M : kM} {h : kH} {a1 : Int32} {a2 : Int32} {a3 : Int32} {z : (Int32 × kM)} (R : kRl A T M h) (hF : F_135 T a1 a2 a3 M = some z) : kRun G (d + 1) 135 [.ref (A lMo), .int a1, .int a2, .int a3] h 0 0 (kPI A T z) := by
  refine ⟨⟨rfl, Nat.le_of_ble_eq_true rfl⟩, ?_⟩
  show kWP _ _ (kRun G (d + 0)) _ 0 [some (.ref (A lMo)), some (.int a1), some (.int a2), some (.int a3), none] [] _ _ _
  have K : (fun z : (Int32 × kM) => ∀ h1, kRl A T z.2 h1 → kPI A T z (.inl (some (.int z.1))) h1) z := fun _ q => ⟨rfl, q⟩
  unfold F_135 at hF
  refine k_iconst (pc := 0) (v := 0) i_135_0 (by decide) ?_
  refine k_istore (pc := 1) (lo2 := [some (.ref (A lMo)), some (.int a1), some (.int a2), some (.int a3), some (.int 0)]) i_135_1 (Nat.le_of_ble_eq_true rfl) rfl ?_
  exact W_135_3 (d := d) rfl R K hF
-- 134: RDModel isFull
noncomputable def F_134 (T : kT) (a1 : Int32) (a2 : Int32) (M : kM) : Option (Int32 × kM) :=
  kGx a1 60 (if (gp M (lMa 26) a1.toNatClampNeg) < a2 then (some (0, M)) else (some (1, M)))
set_option maxHeartbeats 1000000 in
theorem D_134 {G : kG} {d : Nat} {A : kLb → Nat} {T : kT} {M : kM} {h : kH} {a1 : Int32} {a2 : Int32} {z : (Int32 × kM)} (R : kRl A T M h) (hF : F_134 T a1 a2 M = some z) : kRun G (d + 1) 134 [.ref (A lMo), .int a1, .int a2] h 0 0 (kPI A T z) := by
  refine ⟨⟨rfl, Nat.le_of_ble_eq_true rfl⟩, ?_⟩
  show kWP _ _ (kRun G (d + 0)) _ 0 [some (.ref (A lMo)), some (.int a1), some (.int a2)] [] _ _ _
  have K : (fun z : (Int32 × kM) => ∀ h1, kRl A T z.2 h1 → kPI A T z (.inl (some (.int z.1))) h1) z := fun _ q => ⟨rfl, q⟩
  unfold F_134 at hF
  refine k_aload_n (pc := 0) i_134_0 rfl rfl ?_
  refine k_getf (pc := 1) i_134_1 f_7_57 (rd_Mo R) rfl ?_
  refine k_iload_n (pc := 4) i_134_4 rfl ?_
  obtain ⟨g1, hF⟩ := kGx_el hF
  refine k_iald (pc := 5) i_134_5 (rd_Ma_26 R) g1 ?_
  refine k_iload_n (pc := 6) i_134_6 rfl ?_
  refine k_icmp_lt (pc := 7) (tgt := 14) i_134_7 (by decide) (fun c2 => ?_) (fun c2 => ?_)
  · rw [if_pos c2] at hF
    refine k_iconst (pc := 14) (v := 0) i_134_14 (by decide) ?_
    obtain rfl := Option.some.inj hF
    exact k_ireturn (pc := 15) i_134_15 rfl rfl (K _ R)
  · rw [if_neg c2] at hF
    refine k_iconst (pc := 10) (v := 1) i_134_10 (by decide) ?_
    refine k_goto (pc := 11) (tgt := 15) i_134_11 (by decide) ?_
    obtain rfl := Option.some.inj hF
    exact k_ireturn (pc := 15) i_134_15 rfl rfl (K _ R)
-- 136: RDModel lay
noncomputable def B_136_3 (T : kT) (a1 : Int32) (a2 : Int32) (a3 : Int32) (a4 : Int32) (M : kM) : Option ((Int32 × kM) ⊕ (Unit × kM)) :=
  kGx a3 60 (if (gp M (lMa 21) a3.toNatClampNeg) ≤ a4 then (some (.inr (((), M)))) else (kGx ((a3 * 12) + a4) 720 (kGx ((((a1 * 150) + a2) * 12) + a4) 108000 (some (.inl ((a4 + 1), sp M (lMa 27) ((((a1 * 150) + a2) * 12) + a4).toNatClampNeg (gp M (lMa 28) ((a3 * 12) + a4).toNatClampNeg)))))))
noncomputable def F_136_3 (T : kT) (a1 : Int32) (a2 : Int32) (a3 : Int32) (a4 : Int32) (M : kM) : Option (Unit × kM) :=
  kWh (fun w : (Int32 × kM) => B_136_3 T a1 a2 a3 w.1 w.2) (a4, M)
theorem F_136_3_eq (T : kT) (a1 : Int32) (a2 : Int32) (a3 : Int32) (a4 : Int32) (M : kM) : F_136_3 T a1 a2 a3 a4 M = kAg (B_136_3 T a1 a2 a3 a4 M) (fun w => F_136_3 T a1 a2 a3 w.1 w.2) := by
  unfold F_136_3
  rw [kWh_eq]
set_option maxHeartbeats 1000000 in
theorem W_136_3 {G : kG} {d : Nat} {A : kLb → Nat} {C : kCl} {P : kO → kH → Prop} {T : kT} {M : kM} {h : kH} {a1 : Int32} {a2 : Int32} {a3 : Int32} {a4 : Int32} {z : (Unit × kM)} (hC : C = kRun G (d + 0)) (R : kRl A T M h) (K : (fun z : (Unit × kM) => ∀ h1, kRl A T z.2 h1 → P (.inl none) h1) z) (hF : F_136_3 T a1 a2 a3 a4 M = some z) : kWP G 136 C P 3 [some (.ref (A lMo)), some (.int a1), some (.int a2), some (.int a3), some (.int a4)] [] h 0 0 := by
  refine kWh_ind (P := (fun w : (Int32 × kM) => ∀ (h : kH), kRl A T w.2 h → kWP G 136 C P 3 [some (.ref (A lMo)), some (.int a1), some (.int a2), some (.int a3), some (.int w.1)] [] h 0 0)) (Q := (fun z : (Unit × kM) => ∀ h1, kRl A T z.2 h1 → P (.inl none) h1)) hF K ?_ h R
  clear hF K R
  intro w z hF K h R
  obtain ⟨a4, M⟩ := w
  change B_136_3 T a1 a2 a3 a4 M = some z at hF
  change kWP G 136 C P 3 [some (.ref (A lMo)), some (.int a1), some (.int a2), some (.int a3), some (.int a4)] [] h 0 0
  unfold B_136_3 at hF
  refine k_iload (pc := 3) i_136_3 rfl ?_
  refine k_aload_n (pc := 5) i_136_5 rfl rfl ?_
  refine k_getf (pc := 6) i_136_6 f_7_54 (rd_Mo R) rfl ?_
  refine k_iload_n (pc := 9) i_136_9 rfl ?_
  obtain ⟨g1, hF⟩ := kGx_el hF
  refine k_iald (pc := 10) i_136_10 (rd_Ma_21 R) g1 ?_
  refine k_icmp_ge (pc := 11) (tgt := 50) i_136_11 (by decide) (fun c2 => ?_) (fun c2 => ?_)
  · rw [if_pos c2] at hF
    obtain rfl := Option.some.inj hF
    exact k_return (pc := 50) i_136_50 rfl (K _ R)
  · rw [if_neg c2] at hF
    refine k_aload_n (pc := 14) i_136_14 rfl rfl ?_
    refine k_getf (pc := 15) i_136_15 f_7_61 (rd_Mo R) rfl ?_
    refine k_iload_n (pc := 18) i_136_18 rfl ?_
    refine k_sipush (pc := 19) (v := 150) i_136_19 (by decide) ?_
    refine k_imul (pc := 22) i_136_22 ?_
    refine k_iload_n (pc := 23) i_136_23 rfl ?_
    refine k_iadd (pc := 24) i_136_24 ?_
    refine k_bipush (pc := 25) (v := 12) i_136_25 (by decide) ?_
    refine k_imul (pc := 27) i_136_27 ?_
    refine k_iload (pc := 28) i_136_28 rfl ?_
    refine k_iadd (pc := 30) i_136_30 ?_
    refine k_aload_n (pc := 31) i_136_31 rfl rfl ?_
    refine k_getf (pc := 32) i_136_32 f_7_64 (rd_Mo R) rfl ?_
    refine k_iload_n (pc := 35) i_136_35 rfl ?_
    refine k_bipush (pc := 36) (v := 12) i_136_36 (by decide) ?_
    refine k_imul (pc := 38) i_136_38 ?_
    refine k_iload (pc := 39) i_136_39 rfl ?_
    refine k_iadd (pc := 41) i_136_41 ?_
    obtain ⟨g3, hF⟩ := kGx_el hF
    refine k_iald (pc := 42) i_136_42 (rd_Ma_28 R) g3 ?_
    obtain ⟨g4, hF⟩ := kGx_el hF
    refine k_iast (pc := 43) i_136_43 (rd_Ma_27 R) g4 (fun h e5 => ?_)
    replace R := kRl_sp (l := (lMa 27)) (k := ((((a1 * 150) + a2) * 12) + a4).toNatClampNeg) (v := gp M (lMa 28) ((a3 * 12) + a4).toNatClampNeg) R rfl e5
    clear e5
    refine k_iinc (pc := 44) (v := a4 + 1) (lo2 := [some (.ref (A lMo)), some (.int a1), some (.int a2), some (.int a3), some (.int (a4 + 1))]) i_136_44 rfl rfl rfl ?_
    refine k_goto (pc := 47) (tgt := 3) i_136_47 (by decide) ?_
    obtain rfl := Option.some.inj hF
    exact K _ R
noncomputable def F_136 (T : kT) (a1 : Int32) (a2 : Int32) (a3 : Int32) (M : kM) : Option (Unit × kM) :=
  F_136_3 T a1 a2 a3 0 M
set_option maxHeartbeats 1000000 in
theorem D_136 {G : kG} {d : Nat} {A : kLb → Nat} {T : kT} {M : kM} {h : kH} {a1 : Int32} {a2 : Int32} {a3 : Int32} {z : (Unit × kM)} (R : kRl A T M h) (hF : F_136 T a1 a2 a3 M = some z) : kRun G (d + 1) 136 [.ref (A lMo), .int a1, .int a2, .int a3] h 0 0 (kPV A T z) := by
  refine ⟨⟨rfl, Nat.le_of_ble_eq_true rfl⟩, ?_⟩
  show kWP _ _ (kRun G (d + 0)) _ 0 [some (.ref (A lMo)), some (.int a1), some (.int a2), some (.int a3), none] [] _ _ _
  have K : (fun z : (Unit × kM) => ∀ h1, kRl A T z.2 h1 → kPV A T z (.inl none) h1) z := fun _ q => ⟨rfl, q⟩
  unfold F_136 at hF
  refine k_iconst (pc := 0) (v := 0) i_136_0 (by decide) ?_
  refine k_istore (pc := 1) (lo2 := [some (.ref (A lMo)), some (.int a1), some (.int a2), some (.int a3), some (.int 0)]) i_136_1 (Nat.le_of_ble_eq_true rfl) rfl ?_
  exact W_136_3 (d := d) rfl R K hF
-- 137: RDModel keeps
noncomputable def B_137_5 (T : kT) (a1 : Int32) (a2 : Int32) (a3 : Int32) (a4 : Int32) (M : kM) : Option ((Int32 × Int32 × kM) ⊕ (Int32 × kM)) :=
  kGx a1 60 (if (gp M (lMa 26) a1.toNatClampNeg) ≤ a4 then (if a3 = 0 then (kBd (F_134 T a1 150 M) (fun r4 M5 => if r4 = 0 then (kGx a1 60 (kBd (F_136 T a1 (gp M5 (lMa 26) a1.toNatClampNeg) a2 M5) (fun r9 M10 => kGx a1 60 (kGx a1 60 (kBd (F_130 T a1 a2 (sp M10 (lMa 26) a1.toNatClampNeg ((gp M10 (lMa 26) a1.toNatClampNeg) + 1))) (fun r15 M16 => some (.inr ((1, M16))))))))) else (some (.inr ((0, M5)))))) else (kBd (F_123 T a2 M) (fun r18 M19 => some (.inr ((1, M19)))))) else (if a3 = 0 then (kBd (F_135 T a1 a4 a2 M) (fun r22 M23 => if r22 = 0 then (some (.inl (0, (a4 + 1), M23))) else (some (.inl (1, (a4 + 1), M23))))) else (some (.inl (1, (a4 + 1), M)))))
noncomputable def F_137_5 (T : kT) (a1 : Int32) (a2 : Int32) (a3 : Int32) (a4 : Int32) (M : kM) : Option (Int32 × kM) :=
  kWh (fun w : (Int32 × Int32 × kM) => B_137_5 T a1 a2 w.1 w.2.1 w.2.2) (a3, a4, M)
theorem F_137_5_eq (T : kT) (a1 : Int32) (a2 : Int32) (a3 : Int32) (a4 : Int32) (M : kM) : F_137_5 T a1 a2 a3 a4 M = kAg (B_137_5 T a1 a2 a3 a4 M) (fun w => F_137_5 T a1 a2 w.1 w.2.1 w.2.2) := by
  unfold F_137_5
  rw [kWh_eq]
set_option maxHeartbeats 1000000 in
theorem W_137_5 {G : kG} {d : Nat} {A : kLb → Nat} {C : kCl} {P : kO → kH → Prop} {T : kT} {M : kM} {h : kH} {a1 : Int32} {a2 : Int32} {a3 : Int32} {a4 : Int32} {z : (Int32 × kM)} (hC : C = kRun G (d + 2)) (R : kRl A T M h) (K : (fun z : (Int32 × kM) => ∀ h1, kRl A T z.2 h1 → P (.inl (some (.int z.1))) h1) z) (hF : F_137_5 T a1 a2 a3 a4 M = some z) : kWP G 137 C P 5 [some (.ref (A lMo)), some (.int a1), some (.int a2), some (.int a3), some (.int a4)] [] h 0 0 := by
  refine kWh_ind (P := (fun w : (Int32 × Int32 × kM) => ∀ (h : kH), kRl A T w.2.2 h → kWP G 137 C P 5 [some (.ref (A lMo)), some (.int a1), some (.int a2), some (.int w.1), some (.int w.2.1)] [] h 0 0)) (Q := (fun z : (Int32 × kM) => ∀ h1, kRl A T z.2 h1 → P (.inl (some (.int z.1))) h1)) hF K ?_ h R
  clear hF K R
  intro w z hF K h R
  obtain ⟨a3, a4, M⟩ := w
  change B_137_5 T a1 a2 a3 a4 M = some z at hF
  change kWP G 137 C P 5 [some (.ref (A lMo)), some (.int a1), some (.int a2), some (.int a3), some (.int a4)] [] h 0 0
  unfold B_137_5 at hF
  refine k_iload (pc := 5) i_137_5 rfl ?_
  refine k_aload_n (pc := 7) i_137_7 rfl rfl ?_
  refine k_getf (pc := 8) i_137_8 f_7_57 (rd_Mo R) rfl ?_
  refine k_iload_n (pc := 11) i_137_11 rfl ?_
  obtain ⟨g1, hF⟩ := kGx_el hF
  refine k_iald (pc := 12) i_137_12 (rd_Ma_26 R) g1 ?_
  refine k_icmp_ge (pc := 13) (tgt := 43) i_137_13 (by decide) (fun c2 => ?_) (fun c2 => ?_)
  · rw [if_pos c2] at hF
    refine k_iload_n (pc := 43) i_137_43 rfl ?_
    refine k_if_eq (pc := 44) (tgt := 54) i_137_44 (by decide) (fun c3 => ?_) (fun c3 => ?_)
    · rw [if_pos c3] at hF
      refine k_aload_n (pc := 54) i_137_54 rfl rfl ?_
      refine k_iload_n (pc := 55) i_137_55 rfl ?_
      refine k_sipush (pc := 56) (v := 150) i_137_56 (by decide) ?_
      obtain ⟨r4, M5, q6, hF⟩ := kBd_el hF
      refine kcv_I (pc := 59) (As := [.ref (A lMo), .int a1, .int 150]) (st := []) (A := A) (T := T) (r := r4) (M1 := M5) i_137_59 m_7_229 rfl rfl rfl rfl (rd_Mo R) rfl (Nat.le_of_ble_eq_true rfl) (hC ▸ D_134 R q6) (fun h R => ?_)
      refine k_if_eq (pc := 62) (tgt := 67) i_137_62 (by decide) (fun c7 => ?_) (fun c7 => ?_)
      · rw [if_pos c7] at hF
        refine k_aload_n (pc := 67) i_137_67 rfl rfl ?_
        refine k_iload_n (pc := 68) i_137_68 rfl ?_
        refine k_aload_n (pc := 69) i_137_69 rfl rfl ?_
        refine k_getf (pc := 70) i_137_70 f_7_57 (rd_Mo R) rfl ?_
        refine k_iload_n (pc := 73) i_137_73 rfl ?_
        obtain ⟨g8, hF⟩ := kGx_el hF
        refine k_iald (pc := 74) i_137_74 (rd_Ma_26 R) g8 ?_
        refine k_iload_n (pc := 75) i_137_75 rfl ?_
        obtain ⟨r9, M10, q11, hF⟩ := kBd_el hF
        refine kcv_V (pc := 76) (As := [.ref (A lMo), .int a1, .int (gp M5 (lMa 26) a1.toNatClampNeg), .int a2]) (st := []) (A := A) (T := T) (r := r9) (M1 := M10) i_137_76 m_7_232 rfl rfl rfl rfl (rd_Mo R) rfl (Nat.le_of_ble_eq_true rfl) (hC ▸ D_136 R q11) (fun h R => ?_)
        refine k_aload_n (pc := 79) i_137_79 rfl rfl ?_
        refine k_getf (pc := 80) i_137_80 f_7_57 (rd_Mo R) rfl ?_
        refine k_iload_n (pc := 83) i_137_83 rfl ?_
        refine k_dup2 (pc := 84) i_137_84 rfl rfl ?_
        obtain ⟨g12, hF⟩ := kGx_el hF
        refine k_iald (pc := 85) i_137_85 (rd_Ma_26 R) g12 ?_
        refine k_iconst (pc := 86) (v := 1) i_137_86 (by decide) ?_
        refine k_iadd (pc := 87) i_137_87 ?_
        obtain ⟨g13, hF⟩ := kGx_el hF
        refine k_iast (pc := 88) i_137_88 (rd_Ma_26 R) g13 (fun h e14 => ?_)
        replace R := kRl_sp (l := (lMa 26)) (k := a1.toNatClampNeg) (v := (gp M10 (lMa 26) a1.toNatClampNeg) + 1) R rfl e14
        clear e14
        refine k_aload_n (pc := 89) i_137_89 rfl rfl ?_
        refine k_iload_n (pc := 90) i_137_90 rfl ?_
        refine k_iload_n (pc := 91) i_137_91 rfl ?_
        obtain ⟨r15, M16, q17, hF⟩ := kBd_el hF
        refine kcv_V (pc := 92) (As := [.ref (A lMo), .int a1, .int a2]) (st := []) (A := A) (T := T) (r := r15) (M1 := M16) i_137_92 m_7_211 rfl rfl rfl rfl (rd_Mo R) rfl (Nat.le_of_ble_eq_true rfl) (hC ▸ D_130 R q17) (fun h R => ?_)
        refine k_iconst (pc := 95) (v := 1) i_137_95 (by decide) ?_
        obtain rfl := Option.some.inj hF
        exact k_ireturn (pc := 96) i_137_96 rfl rfl (K _ R)
      · rw [if_neg c7] at hF
        refine k_iconst (pc := 65) (v := 0) i_137_65 (by decide) ?_
        obtain rfl := Option.some.inj hF
        exact k_ireturn (pc := 66) i_137_66 rfl rfl (K _ R)
    · rw [if_neg c3] at hF
      refine k_aload_n (pc := 47) i_137_47 rfl rfl ?_
      refine k_iload_n (pc := 48) i_137_48 rfl ?_
      obtain ⟨r18, M19, q20, hF⟩ := kBd_el hF
      refine kcv_V (pc := 49) (As := [.ref (A lMo), .int a2]) (st := []) (A := A) (T := T) (r := r18) (M1 := M19) i_137_49 m_7_203 rfl rfl rfl rfl (rd_Mo R) rfl (Nat.le_of_ble_eq_true rfl) (hC ▸ D_123 R q20) (fun h R => ?_)
      refine k_iconst (pc := 52) (v := 1) i_137_52 (by decide) ?_
      obtain rfl := Option.some.inj hF
      exact k_ireturn (pc := 53) i_137_53 rfl rfl (K _ R)
  · rw [if_neg c2] at hF
    refine k_iload_n (pc := 16) i_137_16 rfl ?_
    refine k_if_ne (pc := 17) (tgt := 31) i_137_17 (by decide) (fun c21 => ?_) (fun c21 => ?_)
    · rw [if_neg c21] at hF
      refine k_iconst (pc := 31) (v := 1) i_137_31 (by decide) ?_
      refine k_goto (pc := 32) (tgt := 36) i_137_32 (by decide) ?_
      refine k_istore_n (pc := 36) (lo2 := [some (.ref (A lMo)), some (.int a1), some (.int a2), some (.int 1), some (.int a4)]) i_137_36 (Nat.le_of_ble_eq_true rfl) rfl ?_
      refine k_iinc (pc := 37) (v := a4 + 1) (lo2 := [some (.ref (A lMo)), some (.int a1), some (.int a2), some (.int 1), some (.int (a4 + 1))]) i_137_37 rfl rfl rfl ?_
      refine k_goto (pc := 40) (tgt := 5) i_137_40 (by decide) ?_
      obtain rfl := Option.some.inj hF
      exact K _ R
    · rw [if_pos c21] at hF
      refine k_aload_n (pc := 20) i_137_20 rfl rfl ?_
      refine k_iload_n (pc := 21) i_137_21 rfl ?_
      refine k_iload (pc := 22) i_137_22 rfl ?_
      refine k_iload_n (pc := 24) i_137_24 rfl ?_
      obtain ⟨r22, M23, q24, hF⟩ := kBd_el hF
      refine kcv_I (pc := 25) (As := [.ref (A lMo), .int a1, .int a4, .int a2]) (st := []) (A := A) (T := T) (r := r22) (M1 := M23) i_137_25 m_7_226 rfl rfl rfl rfl (rd_Mo R) rfl (Nat.le_of_ble_eq_true rfl) (hC ▸ D_135 R q24) (fun h R => ?_)
      refine k_if_eq (pc := 28) (tgt := 35) i_137_28 (by decide) (fun c25 => ?_) (fun c25 => ?_)
      · rw [if_pos c25] at hF
        refine k_iconst (pc := 35) (v := 0) i_137_35 (by decide) ?_
        refine k_istore_n (pc := 36) (lo2 := [some (.ref (A lMo)), some (.int a1), some (.int a2), some (.int 0), some (.int a4)]) i_137_36 (Nat.le_of_ble_eq_true rfl) rfl ?_
        refine k_iinc (pc := 37) (v := a4 + 1) (lo2 := [some (.ref (A lMo)), some (.int a1), some (.int a2), some (.int 0), some (.int (a4 + 1))]) i_137_37 rfl rfl rfl ?_
        refine k_goto (pc := 40) (tgt := 5) i_137_40 (by decide) ?_
        obtain rfl := Option.some.inj hF
        exact K _ R
      · rw [if_neg c25] at hF
        refine k_iconst (pc := 31) (v := 1) i_137_31 (by decide) ?_
        refine k_goto (pc := 32) (tgt := 36) i_137_32 (by decide) ?_
        refine k_istore_n (pc := 36) (lo2 := [some (.ref (A lMo)), some (.int a1), some (.int a2), some (.int 1), some (.int a4)]) i_137_36 (Nat.le_of_ble_eq_true rfl) rfl ?_
        refine k_iinc (pc := 37) (v := a4 + 1) (lo2 := [some (.ref (A lMo)), some (.int a1), some (.int a2), some (.int 1), some (.int (a4 + 1))]) i_137_37 rfl rfl rfl ?_
        refine k_goto (pc := 40) (tgt := 5) i_137_40 (by decide) ?_
        obtain rfl := Option.some.inj hF
        exact K _ R
noncomputable def F_137 (T : kT) (a1 : Int32) (a2 : Int32) (M : kM) : Option (Int32 × kM) :=
  F_137_5 T a1 a2 0 0 M
set_option maxHeartbeats 1000000 in
theorem D_137 {G : kG} {d : Nat} {A : kLb → Nat} {T : kT} {M : kM} {h : kH} {a1 : Int32} {a2 : Int32} {z : (Int32 × kM)} (R : kRl A T M h) (hF : F_137 T a1 a2 M = some z) : kRun G (d + 3) 137 [.ref (A lMo), .int a1, .int a2] h 0 0 (kPI A T z) := by
  refine ⟨⟨rfl, Nat.le_of_ble_eq_true rfl⟩, ?_⟩
  show kWP _ _ (kRun G (d + 2)) _ 0 [some (.ref (A lMo)), some (.int a1), some (.int a2), none, none] [] _ _ _
  have K : (fun z : (Int32 × kM) => ∀ h1, kRl A T z.2 h1 → kPI A T z (.inl (some (.int z.1))) h1) z := fun _ q => ⟨rfl, q⟩
  unfold F_137 at hF
  refine k_iconst (pc := 0) (v := 0) i_137_0 (by decide) ?_
  refine k_istore_n (pc := 1) (lo2 := [some (.ref (A lMo)), some (.int a1), some (.int a2), some (.int 0), none]) i_137_1 (Nat.le_of_ble_eq_true rfl) rfl ?_
  refine k_iconst (pc := 2) (v := 0) i_137_2 (by decide) ?_
  refine k_istore (pc := 3) (lo2 := [some (.ref (A lMo)), some (.int a1), some (.int a2), some (.int 0), some (.int 0)]) i_137_3 (Nat.le_of_ble_eq_true rfl) rfl ?_
  exact W_137_5 (d := d) rfl R K hF
-- 138: RDModel sorts
noncomputable def F_138_201 (T : kT) (a1 : Int32) (a2 : Int32) (a6 : Int32) (M : kM) : Option (Int32 × kM) :=
  kBd (F_136 T a1 a6 a2 M) (fun r15 M16 => kGx a1 60 (kGx a1 60 (kBd (F_123 T a2 (sp M16 (lMa 26) a1.toNatClampNeg ((gp M16 (lMa 26) a1.toNatClampNeg) + 1))) (fun r21 M22 => some (1, M22)))))
set_option maxHeartbeats 1000000 in
theorem W_138_201 {G : kG} {d : Nat} {A : kLb → Nat} {C : kCl} {P : kO → kH → Prop} {T : kT} {M : kM} {h : kH} {a1 : Int32} {a2 : Int32} {a6 : Int32} {b3 b4 b5 b7 b8 b9 : Option Value} {z : (Int32 × kM)} (hC : C = kRun G (d + 1)) (R : kRl A T M h) (K : (fun z : (Int32 × kM) => ∀ h1, kRl A T z.2 h1 → P (.inl (some (.int z.1))) h1) z) (hF : F_138_201 T a1 a2 a6 M = some z) : kWP G 138 C P 201 [some (.ref (A lMo)), some (.int a1), some (.int a2), b3, b4, b5, some (.int a6), b7, b8, b9] [] h 0 0 := by
  unfold F_138_201 at hF
  refine k_aload_n (pc := 201) i_138_201 rfl rfl ?_
  refine k_iload_n (pc := 202) i_138_202 rfl ?_
  refine k_iload (pc := 203) i_138_203 rfl ?_
  refine k_iload_n (pc := 205) i_138_205 rfl ?_
  obtain ⟨r15, M16, q17, hF⟩ := kBd_el hF
  refine kcv_V (pc := 206) (As := [.ref (A lMo), .int a1, .int a6, .int a2]) (st := []) (A := A) (T := T) (r := r15) (M1 := M16) i_138_206 m_7_232 rfl rfl rfl rfl (rd_Mo R) rfl (Nat.le_of_ble_eq_true rfl) (hC ▸ D_136 R q17) (fun h R => ?_)
  refine k_aload_n (pc := 209) i_138_209 rfl rfl ?_
  refine k_getf (pc := 210) i_138_210 f_7_57 (rd_Mo R) rfl ?_
  refine k_iload_n (pc := 213) i_138_213 rfl ?_
  refine k_dup2 (pc := 214) i_138_214 rfl rfl ?_
  obtain ⟨g18, hF⟩ := kGx_el hF
  refine k_iald (pc := 215) i_138_215 (rd_Ma_26 R) g18 ?_
  refine k_iconst (pc := 216) (v := 1) i_138_216 (by decide) ?_
  refine k_iadd (pc := 217) i_138_217 ?_
  obtain ⟨g19, hF⟩ := kGx_el hF
  refine k_iast (pc := 218) i_138_218 (rd_Ma_26 R) g19 (fun h e20 => ?_)
  replace R := kRl_sp (l := (lMa 26)) (k := a1.toNatClampNeg) (v := (gp M16 (lMa 26) a1.toNatClampNeg) + 1) R rfl e20
  clear e20
  refine k_aload_n (pc := 219) i_138_219 rfl rfl ?_
  refine k_iload_n (pc := 220) i_138_220 rfl ?_
  obtain ⟨r21, M22, q23, hF⟩ := kBd_el hF
  refine kcv_V (pc := 221) (As := [.ref (A lMo), .int a2]) (st := []) (A := A) (T := T) (r := r21) (M1 := M22) i_138_221 m_7_203 rfl rfl rfl rfl (rd_Mo R) rfl (Nat.le_of_ble_eq_true rfl) (hC ▸ D_123 R q23) (fun h R => ?_)
  refine k_iconst (pc := 224) (v := 1) i_138_224 (by decide) ?_
  obtain rfl := Option.some.inj hF
  exact k_ireturn (pc := 225) i_138_225 rfl rfl (K _ R)
noncomputable def B_138_138 (T : kT) (a1 : Int32) (a2 : Int32) (a3 : Int32) (a4 : Int32) (a5 : Int32) (a6 : Int32) (a7 : Int32) (a9 : Int32) (M : kM) : Option ((Int32 × kM) ⊕ ((Int32 × Int32 × kM) ⊕ (Int32 × kM))) :=
  kGx a2 60 (if (gp M (lMa 21) a2.toNatClampNeg) ≤ a9 then (some (.inr (.inl ((a6 + (-1)), a7, M)))) else (kGx (((((a1 * 150) + a6) - 1) * 12) + a9) 108000 (kGx ((((a1 * 150) + a6) * 12) + a9) 108000 (some (.inl ((a9 + 1), sp M (lMa 27) ((((a1 * 150) + a6) * 12) + a9).toNatClampNeg (gp M (lMa 27) (((((a1 * 150) + a6) - 1) * 12) + a9).toNatClampNeg)))))))
noncomputable def F_138_138 (T : kT) (a1 : Int32) (a2 : Int32) (a3 : Int32) (a4 : Int32) (a5 : Int32) (a6 : Int32) (a7 : Int32) (a9 : Int32) (M : kM) : Option ((Int32 × Int32 × kM) ⊕ (Int32 × kM)) :=
  kWh (fun w : (Int32 × kM) => B_138_138 T a1 a2 a3 a4 a5 a6 a7 w.1 w.2) (a9, M)
theorem F_138_138_eq (T : kT) (a1 : Int32) (a2 : Int32) (a3 : Int32) (a4 : Int32) (a5 : Int32) (a6 : Int32) (a7 : Int32) (a9 : Int32) (M : kM) : F_138_138 T a1 a2 a3 a4 a5 a6 a7 a9 M = kAg (B_138_138 T a1 a2 a3 a4 a5 a6 a7 a9 M) (fun w => F_138_138 T a1 a2 a3 a4 a5 a6 a7 w.1 w.2) := by
  unfold F_138_138
  rw [kWh_eq]
set_option maxHeartbeats 1000000 in
theorem W_138_138 {G : kG} {d : Nat} {A : kLb → Nat} {C : kCl} {P : kO → kH → Prop} {T : kT} {M : kM} {h : kH} {a1 : Int32} {a2 : Int32} {a3 : Int32} {a4 : Int32} {a5 : Int32} {a6 : Int32} {a7 : Int32} {a9 : Int32} {b8 : Option Value} {z : ((Int32 × Int32 × kM) ⊕ (Int32 × kM))} (hC : C = kRun G (d + 1)) (R : kRl A T M h) (K : (Sum.elim (fun w : (Int32 × Int32 × kM) => ∀ (h : kH) (b8 b9 : Option Value), kRl A T w.2.2 h → kWP G 138 C P 61 [some (.ref (A lMo)), some (.int a1), some (.int a2), some (.int a3), some (.int a4), some (.int a5), some (.int w.1), some (.int w.2.1), b8, b9] [] h 0 0) (fun z : (Int32 × kM) => ∀ h1, kRl A T z.2 h1 → P (.inl (some (.int z.1))) h1)) z) (hF : F_138_138 T a1 a2 a3 a4 a5 a6 a7 a9 M = some z) : kWP G 138 C P 138 [some (.ref (A lMo)), some (.int a1), some (.int a2), some (.int a3), some (.int a4), some (.int a5), some (.int a6), some (.int a7), b8, some (.int a9)] [] h 0 0 := by
  refine kWh_ind (P := (fun w : (Int32 × kM) => ∀ (h : kH) (b8 : Option Value), kRl A T w.2 h → kWP G 138 C P 138 [some (.ref (A lMo)), some (.int a1), some (.int a2), some (.int a3), some (.int a4), some (.int a5), some (.int a6), some (.int a7), b8, some (.int w.1)] [] h 0 0)) (Q := (Sum.elim (fun w : (Int32 × Int32 × kM) => ∀ (h : kH) (b8 b9 : Option Value), kRl A T w.2.2 h → kWP G 138 C P 61 [some (.ref (A lMo)), some (.int a1), some (.int a2), some (.int a3), some (.int a4), some (.int a5), some (.int w.1), some (.int w.2.1), b8, b9] [] h 0 0) (fun z : (Int32 × kM) => ∀ h1, kRl A T z.2 h1 → P (.inl (some (.int z.1))) h1))) hF K ?_ h _ R
  clear hF K R
  intro w z hF K h b8 R
  obtain ⟨a9, M⟩ := w
  change B_138_138 T a1 a2 a3 a4 a5 a6 a7 a9 M = some z at hF
  change kWP G 138 C P 138 [some (.ref (A lMo)), some (.int a1), some (.int a2), some (.int a3), some (.int a4), some (.int a5), some (.int a6), some (.int a7), b8, some (.int a9)] [] h 0 0
  unfold B_138_138 at hF
  refine k_iload (pc := 138) i_138_138 rfl ?_
  refine k_aload_n (pc := 140) i_138_140 rfl rfl ?_
  refine k_getf (pc := 141) i_138_141 f_7_54 (rd_Mo R) rfl ?_
  refine k_iload_n (pc := 144) i_138_144 rfl ?_
  obtain ⟨g20, hF⟩ := kGx_el hF
  refine k_iald (pc := 145) i_138_145 (rd_Ma_21 R) g20 ?_
  refine k_icmp_ge (pc := 146) (tgt := 195) i_138_146 (by decide) (fun c21 => ?_) (fun c21 => ?_)
  · rw [if_pos c21] at hF
    refine k_iinc (pc := 195) (v := a6 + (-1)) (lo2 := [some (.ref (A lMo)), some (.int a1), some (.int a2), some (.int a3), some (.int a4), some (.int a5), some (.int (a6 + (-1))), some (.int a7), b8, some (.int a9)]) i_138_195 rfl rfl rfl ?_
    refine k_goto (pc := 198) (tgt := 61) i_138_198 (by decide) ?_
    obtain rfl := Option.some.inj hF
    exact K _ _ _ R
  · rw [if_neg c21] at hF
    refine k_aload_n (pc := 149) i_138_149 rfl rfl ?_
    refine k_getf (pc := 150) i_138_150 f_7_61 (rd_Mo R) rfl ?_
    refine k_iload_n (pc := 153) i_138_153 rfl ?_
    refine k_sipush (pc := 154) (v := 150) i_138_154 (by decide) ?_
    refine k_imul (pc := 157) i_138_157 ?_
    refine k_iload (pc := 158) i_138_158 rfl ?_
    refine k_iadd (pc := 160) i_138_160 ?_
    refine k_bipush (pc := 161) (v := 12) i_138_161 (by decide) ?_
    refine k_imul (pc := 163) i_138_163 ?_
    refine k_iload (pc := 164) i_138_164 rfl ?_
    refine k_iadd (pc := 166) i_138_166 ?_
    refine k_aload_n (pc := 167) i_138_167 rfl rfl ?_
    refine k_getf (pc := 168) i_138_168 f_7_61 (rd_Mo R) rfl ?_
    refine k_iload_n (pc := 171) i_138_171 rfl ?_
    refine k_sipush (pc := 172) (v := 150) i_138_172 (by decide) ?_
    refine k_imul (pc := 175) i_138_175 ?_
    refine k_iload (pc := 176) i_138_176 rfl ?_
    refine k_iadd (pc := 178) i_138_178 ?_
    refine k_iconst (pc := 179) (v := 1) i_138_179 (by decide) ?_
    refine k_isub (pc := 180) i_138_180 ?_
    refine k_bipush (pc := 181) (v := 12) i_138_181 (by decide) ?_
    refine k_imul (pc := 183) i_138_183 ?_
    refine k_iload (pc := 184) i_138_184 rfl ?_
    refine k_iadd (pc := 186) i_138_186 ?_
    obtain ⟨g22, hF⟩ := kGx_el hF
    refine k_iald (pc := 187) i_138_187 (rd_Ma_27 R) g22 ?_
    obtain ⟨g23, hF⟩ := kGx_el hF
    refine k_iast (pc := 188) i_138_188 (rd_Ma_27 R) g23 (fun h e24 => ?_)
    replace R := kRl_sp (l := (lMa 27)) (k := ((((a1 * 150) + a6) * 12) + a9).toNatClampNeg) (v := gp M (lMa 27) (((((a1 * 150) + a6) - 1) * 12) + a9).toNatClampNeg) R rfl e24
    clear e24
    refine k_iinc (pc := 189) (v := a9 + 1) (lo2 := [some (.ref (A lMo)), some (.int a1), some (.int a2), some (.int a3), some (.int a4), some (.int a5), some (.int a6), some (.int a7), b8, some (.int (a9 + 1))]) i_138_189 rfl rfl rfl ?_
    refine k_goto (pc := 192) (tgt := 138) i_138_192 (by decide) ?_
    obtain rfl := Option.some.inj hF
    exact K _ _ R
noncomputable def F_138_125 (T : kT) (a1 : Int32) (a2 : Int32) (a3 : Int32) (a4 : Int32) (a5 : Int32) (a6 : Int32) (s0 : Int32) (M : kM) : Option ((Int32 × Int32 × kM) ⊕ (Int32 × kM)) :=
  if s0 = 0 then (some (.inl (a6, s0, M))) else (F_138_138 T a1 a2 a3 a4 a5 a6 s0 0 M)
set_option maxHeartbeats 1000000 in
theorem W_138_125 {G : kG} {d : Nat} {A : kLb → Nat} {C : kCl} {P : kO → kH → Prop} {T : kT} {M : kM} {h : kH} {a1 : Int32} {a2 : Int32} {a3 : Int32} {a4 : Int32} {a5 : Int32} {a6 : Int32} {s0 : Int32} {b7 b8 b9 : Option Value} {z : ((Int32 × Int32 × kM) ⊕ (Int32 × kM))} (hC : C = kRun G (d + 1)) (R : kRl A T M h) (K : (Sum.elim (fun w : (Int32 × Int32 × kM) => ∀ (h : kH) (b8 b9 : Option Value), kRl A T w.2.2 h → kWP G 138 C P 61 [some (.ref (A lMo)), some (.int a1), some (.int a2), some (.int a3), some (.int a4), some (.int a5), some (.int w.1), some (.int w.2.1), b8, b9] [] h 0 0) (fun z : (Int32 × kM) => ∀ h1, kRl A T z.2 h1 → P (.inl (some (.int z.1))) h1)) z) (hF : F_138_125 T a1 a2 a3 a4 a5 a6 s0 M = some z) : kWP G 138 C P 125 [some (.ref (A lMo)), some (.int a1), some (.int a2), some (.int a3), some (.int a4), some (.int a5), some (.int a6), b7, b8, b9] [.int s0] h 0 0 := by
  unfold F_138_125 at hF
  refine k_istore (pc := 125) (lo2 := [some (.ref (A lMo)), some (.int a1), some (.int a2), some (.int a3), some (.int a4), some (.int a5), some (.int a6), some (.int s0), b8, b9]) i_138_125 (Nat.le_of_ble_eq_true rfl) rfl ?_
  refine k_iload (pc := 127) i_138_127 rfl ?_
  refine k_if_ne (pc := 129) (tgt := 135) i_138_129 (by decide) (fun c19 => ?_) (fun c19 => ?_)
  · rw [if_neg c19] at hF
    refine k_iconst (pc := 135) (v := 0) i_138_135 (by decide) ?_
    refine k_istore (pc := 136) (lo2 := [some (.ref (A lMo)), some (.int a1), some (.int a2), some (.int a3), some (.int a4), some (.int a5), some (.int a6), some (.int s0), b8, some (.int 0)]) i_138_136 (Nat.le_of_ble_eq_true rfl) rfl ?_
    exact W_138_138 (d := d) hC R K hF
  · rw [if_pos c19] at hF
    refine k_goto (pc := 132) (tgt := 61) i_138_132 (by decide) ?_
    obtain rfl := Option.some.inj hF
    exact K _ _ _ R
noncomputable def B_138_61 (T : kT) (a1 : Int32) (a2 : Int32) (a3 : Int32) (a4 : Int32) (a5 : Int32) (a6 : Int32) (a7 : Int32) (M : kM) : Option ((Int32 × Int32 × kM) ⊕ (Int32 × kM)) :=
  if a6 ≤ 0 then (kLf (F_138_201 T a1 a2 a6 M)) else (if a7 = 0 then (kLf (F_138_201 T a1 a2 a6 M)) else (kGx (((((a1 * 150) + a6) - 1) * 12) + a3) 108000 (if a4 = 0 then (if (gp M (lMa 27) (((((a1 * 150) + a6) - 1) * 12) + a3).toNatClampNeg) ≤ a5 then (F_138_125 T a1 a2 a3 a4 a5 a6 0 M) else (F_138_125 T a1 a2 a3 a4 a5 a6 1 M)) else (if a5 ≤ (gp M (lMa 27) (((((a1 * 150) + a6) - 1) * 12) + a3).toNatClampNeg) then (F_138_125 T a1 a2 a3 a4 a5 a6 0 M) else (F_138_125 T a1 a2 a3 a4 a5 a6 1 M)))))
noncomputable def F_138_61 (T : kT) (a1 : Int32) (a2 : Int32) (a3 : Int32) (a4 : Int32) (a5 : Int32) (a6 : Int32) (a7 : Int32) (M : kM) : Option (Int32 × kM) :=
  kWh (fun w : (Int32 × Int32 × kM) => B_138_61 T a1 a2 a3 a4 a5 w.1 w.2.1 w.2.2) (a6, a7, M)
theorem F_138_61_eq (T : kT) (a1 : Int32) (a2 : Int32) (a3 : Int32) (a4 : Int32) (a5 : Int32) (a6 : Int32) (a7 : Int32) (M : kM) : F_138_61 T a1 a2 a3 a4 a5 a6 a7 M = kAg (B_138_61 T a1 a2 a3 a4 a5 a6 a7 M) (fun w => F_138_61 T a1 a2 a3 a4 a5 w.1 w.2.1 w.2.2) := by
  unfold F_138_61
  rw [kWh_eq]
set_option maxHeartbeats 1000000 in
theorem W_138_61 {G : kG} {d : Nat} {A : kLb → Nat} {C : kCl} {P : kO → kH → Prop} {T : kT} {M : kM} {h : kH} {a1 : Int32} {a2 : Int32} {a3 : Int32} {a4 : Int32} {a5 : Int32} {a6 : Int32} {a7 : Int32} {b8 b9 : Option Value} {z : (Int32 × kM)} (hC : C = kRun G (d + 1)) (R : kRl A T M h) (K : (fun z : (Int32 × kM) => ∀ h1, kRl A T z.2 h1 → P (.inl (some (.int z.1))) h1) z) (hF : F_138_61 T a1 a2 a3 a4 a5 a6 a7 M = some z) : kWP G 138 C P 61 [some (.ref (A lMo)), some (.int a1), some (.int a2), some (.int a3), some (.int a4), some (.int a5), some (.int a6), some (.int a7), b8, b9] [] h 0 0 := by
  refine kWh_ind (P := (fun w : (Int32 × Int32 × kM) => ∀ (h : kH) (b8 b9 : Option Value), kRl A T w.2.2 h → kWP G 138 C P 61 [some (.ref (A lMo)), some (.int a1), some (.int a2), some (.int a3), some (.int a4), some (.int a5), some (.int w.1), some (.int w.2.1), b8, b9] [] h 0 0)) (Q := (fun z : (Int32 × kM) => ∀ h1, kRl A T z.2 h1 → P (.inl (some (.int z.1))) h1)) hF K ?_ h _ _ R
  clear hF K R
  intro w z hF K h b8 b9 R
  obtain ⟨a6, a7, M⟩ := w
  change B_138_61 T a1 a2 a3 a4 a5 a6 a7 M = some z at hF
  change kWP G 138 C P 61 [some (.ref (A lMo)), some (.int a1), some (.int a2), some (.int a3), some (.int a4), some (.int a5), some (.int a6), some (.int a7), b8, b9] [] h 0 0
  unfold B_138_61 at hF
  refine k_iload (pc := 61) i_138_61 rfl ?_
  refine k_if_le (pc := 63) (tgt := 201) i_138_63 (by decide) (fun c14 => ?_) (fun c14 => ?_)
  · rw [if_pos c14] at hF
    obtain ⟨z, hG, rfl⟩ := kLf_el hF
    replace hF := hG
    clear hG
    exact W_138_201 (d := d) hC R K hF
  · rw [if_neg c14] at hF
    refine k_iload (pc := 66) i_138_66 rfl ?_
    refine k_if_eq (pc := 68) (tgt := 201) i_138_68 (by decide) (fun c15 => ?_) (fun c15 => ?_)
    · rw [if_pos c15] at hF
      obtain ⟨z, hG, rfl⟩ := kLf_el hF
      replace hF := hG
      clear hG
      exact W_138_201 (d := d) hC R K hF
    · rw [if_neg c15] at hF
      refine k_aload_n (pc := 71) i_138_71 rfl rfl ?_
      refine k_getf (pc := 72) i_138_72 f_7_61 (rd_Mo R) rfl ?_
      refine k_iload_n (pc := 75) i_138_75 rfl ?_
      refine k_sipush (pc := 76) (v := 150) i_138_76 (by decide) ?_
      refine k_imul (pc := 79) i_138_79 ?_
      refine k_iload (pc := 80) i_138_80 rfl ?_
      refine k_iadd (pc := 82) i_138_82 ?_
      refine k_iconst (pc := 83) (v := 1) i_138_83 (by decide) ?_
      refine k_isub (pc := 84) i_138_84 ?_
      refine k_bipush (pc := 85) (v := 12) i_138_85 (by decide) ?_
      refine k_imul (pc := 87) i_138_87 ?_
      refine k_iload_n (pc := 88) i_138_88 rfl ?_
      refine k_iadd (pc := 89) i_138_89 ?_
      obtain ⟨g16, hF⟩ := kGx_el hF
      refine k_iald (pc := 90) i_138_90 (rd_Ma_27 R) g16 ?_
      refine k_istore (pc := 91) (lo2 := [some (.ref (A lMo)), some (.int a1), some (.int a2), some (.int a3), some (.int a4), some (.int a5), some (.int a6), some (.int a7), some (.int (gp M (lMa 27) (((((a1 * 150) + a6) - 1) * 12) + a3).toNatClampNeg)), b9]) i_138_91 (Nat.le_of_ble_eq_true rfl) rfl ?_
      refine k_iload (pc := 93) i_138_93 rfl ?_
      refine k_if_eq (pc := 95) (tgt := 113) i_138_95 (by decide) (fun c17 => ?_) (fun c17 => ?_)
      · rw [if_pos c17] at hF
        refine k_iload (pc := 113) i_138_113 rfl ?_
        refine k_iload (pc := 115) i_138_115 rfl ?_
        refine k_icmp_le (pc := 117) (tgt := 124) i_138_117 (by decide) (fun c18 => ?_) (fun c18 => ?_)
        · rw [if_pos c18] at hF
          refine k_iconst (pc := 124) (v := 0) i_138_124 (by decide) ?_
          exact W_138_125 (d := d) hC R K hF
        · rw [if_neg c18] at hF
          refine k_iconst (pc := 120) (v := 1) i_138_120 (by decide) ?_
          refine k_goto (pc := 121) (tgt := 125) i_138_121 (by decide) ?_
          exact W_138_125 (d := d) hC R K hF
      · rw [if_neg c17] at hF
        refine k_iload (pc := 98) i_138_98 rfl ?_
        refine k_iload (pc := 100) i_138_100 rfl ?_
        refine k_icmp_ge (pc := 102) (tgt := 109) i_138_102 (by decide) (fun c19 => ?_) (fun c19 => ?_)
        · rw [if_pos c19] at hF
          refine k_iconst (pc := 109) (v := 0) i_138_109 (by decide) ?_
          refine k_goto (pc := 110) (tgt := 125) i_138_110 (by decide) ?_
          exact W_138_125 (d := d) hC R K hF
        · rw [if_neg c19] at hF
          refine k_iconst (pc := 105) (v := 1) i_138_105 (by decide) ?_
          refine k_goto (pc := 106) (tgt := 125) i_138_106 (by decide) ?_
          exact W_138_125 (d := d) hC R K hF
noncomputable def F_138_35 (T : kT) (a1 : Int32) (a2 : Int32) (a3 : Int32) (s0 : Int32) (M : kM) : Option (Int32 × kM) :=
  kGx ((a2 * 12) + a3) 720 (kGx a1 60 (F_138_61 T a1 a2 a3 s0 (gp M (lMa 28) ((a2 * 12) + a3).toNatClampNeg) (gp M (lMa 26) a1.toNatClampNeg) 1 M))
set_option maxHeartbeats 1000000 in
theorem W_138_35 {G : kG} {d : Nat} {A : kLb → Nat} {C : kCl} {P : kO → kH → Prop} {T : kT} {M : kM} {h : kH} {a1 : Int32} {a2 : Int32} {a3 : Int32} {s0 : Int32} {b4 b5 b6 b7 b8 b9 : Option Value} {z : (Int32 × kM)} (hC : C = kRun G (d + 1)) (R : kRl A T M h) (K : (fun z : (Int32 × kM) => ∀ h1, kRl A T z.2 h1 → P (.inl (some (.int z.1))) h1) z) (hF : F_138_35 T a1 a2 a3 s0 M = some z) : kWP G 138 C P 35 [some (.ref (A lMo)), some (.int a1), some (.int a2), some (.int a3), b4, b5, b6, b7, b8, b9] [.int s0] h 0 0 := by
  unfold F_138_35 at hF
  refine k_istore (pc := 35) (lo2 := [some (.ref (A lMo)), some (.int a1), some (.int a2), some (.int a3), some (.int s0), b5, b6, b7, b8, b9]) i_138_35 (Nat.le_of_ble_eq_true rfl) rfl ?_
  refine k_aload_n (pc := 37) i_138_37 rfl rfl ?_
  refine k_getf (pc := 38) i_138_38 f_7_64 (rd_Mo R) rfl ?_
  refine k_iload_n (pc := 41) i_138_41 rfl ?_
  refine k_bipush (pc := 42) (v := 12) i_138_42 (by decide) ?_
  refine k_imul (pc := 44) i_138_44 ?_
  refine k_iload_n (pc := 45) i_138_45 rfl ?_
  refine k_iadd (pc := 46) i_138_46 ?_
  obtain ⟨g12, hF⟩ := kGx_el hF
  refine k_iald (pc := 47) i_138_47 (rd_Ma_28 R) g12 ?_
  refine k_istore (pc := 48) (lo2 := [some (.ref (A lMo)), some (.int a1), some (.int a2), some (.int a3), some (.int s0), some (.int (gp M (lMa 28) ((a2 * 12) + a3).toNatClampNeg)), b6, b7, b8, b9]) i_138_48 (Nat.le_of_ble_eq_true rfl) rfl ?_
  refine k_aload_n (pc := 50) i_138_50 rfl rfl ?_
  refine k_getf (pc := 51) i_138_51 f_7_57 (rd_Mo R) rfl ?_
  refine k_iload_n (pc := 54) i_138_54 rfl ?_
  obtain ⟨g13, hF⟩ := kGx_el hF
  refine k_iald (pc := 55) i_138_55 (rd_Ma_26 R) g13 ?_
  refine k_istore (pc := 56) (lo2 := [some (.ref (A lMo)), some (.int a1), some (.int a2), some (.int a3), some (.int s0), some (.int (gp M (lMa 28) ((a2 * 12) + a3).toNatClampNeg)), some (.int (gp M (lMa 26) a1.toNatClampNeg)), b7, b8, b9]) i_138_56 (Nat.le_of_ble_eq_true rfl) rfl ?_
  refine k_iconst (pc := 58) (v := 1) i_138_58 (by decide) ?_
  refine k_istore (pc := 59) (lo2 := [some (.ref (A lMo)), some (.int a1), some (.int a2), some (.int a3), some (.int s0), some (.int (gp M (lMa 28) ((a2 * 12) + a3).toNatClampNeg)), some (.int (gp M (lMa 26) a1.toNatClampNeg)), some (.int 1), b8, b9]) i_138_59 (Nat.le_of_ble_eq_true rfl) rfl ?_
  exact W_138_61 (d := d) hC R K hF
noncomputable def F_138 (T : kT) (a1 : Int32) (a2 : Int32) (M : kM) : Option (Int32 × kM) :=
  kBd (F_134 T a1 150 M) (fun r1 M2 => if r1 = 0 then (kBd (F_117 T a1 1 M2) (fun r5 M6 => kBd (F_117 T a1 2 M6) (fun r8 M9 => if r8 = 1 then (F_138_35 T a1 a2 r5 1 M9) else (F_138_35 T a1 a2 r5 0 M9)))) else (some (0, M2)))
set_option maxHeartbeats 1000000 in
theorem D_138 {G : kG} {d : Nat} {A : kLb → Nat} {T : kT} {M : kM} {h : kH} {a1 : Int32} {a2 : Int32} {z : (Int32 × kM)} (R : kRl A T M h) (hF : F_138 T a1 a2 M = some z) : kRun G (d + 2) 138 [.ref (A lMo), .int a1, .int a2] h 0 0 (kPI A T z) := by
  refine ⟨⟨rfl, Nat.le_of_ble_eq_true rfl⟩, ?_⟩
  show kWP _ _ (kRun G (d + 1)) _ 0 [some (.ref (A lMo)), some (.int a1), some (.int a2), none, none, none, none, none, none, none] [] _ _ _
  have K : (fun z : (Int32 × kM) => ∀ h1, kRl A T z.2 h1 → kPI A T z (.inl (some (.int z.1))) h1) z := fun _ q => ⟨rfl, q⟩
  unfold F_138 at hF
  refine k_aload_n (pc := 0) i_138_0 rfl rfl ?_
  refine k_iload_n (pc := 1) i_138_1 rfl ?_
  refine k_sipush (pc := 2) (v := 150) i_138_2 (by decide) ?_
  obtain ⟨r1, M2, q3, hF⟩ := kBd_el hF
  refine kcv_I (pc := 5) (As := [.ref (A lMo), .int a1, .int 150]) (st := []) (A := A) (T := T) (r := r1) (M1 := M2) i_138_5 m_7_229 rfl rfl rfl rfl (rd_Mo R) rfl (Nat.le_of_ble_eq_true rfl) (D_134 R q3) (fun h R => ?_)
  refine k_if_eq (pc := 8) (tgt := 13) i_138_8 (by decide) (fun c4 => ?_) (fun c4 => ?_)
  · rw [if_pos c4] at hF
    refine k_aload_n (pc := 13) i_138_13 rfl rfl ?_
    refine k_iload_n (pc := 14) i_138_14 rfl ?_
    refine k_iconst (pc := 15) (v := 1) i_138_15 (by decide) ?_
    obtain ⟨r5, M6, q7, hF⟩ := kBd_el hF
    refine kcv_I (pc := 16) (As := [.ref (A lMo), .int a1, .int 1]) (st := []) (A := A) (T := T) (r := r5) (M1 := M6) i_138_16 m_7_166 rfl rfl rfl rfl (rd_Mo R) rfl (Nat.le_of_ble_eq_true rfl) (D_117 R q7) (fun h R => ?_)
    refine k_istore_n (pc := 19) (lo2 := [some (.ref (A lMo)), some (.int a1), some (.int a2), some (.int r5), none, none, none, none, none, none]) i_138_19 (Nat.le_of_ble_eq_true rfl) rfl ?_
    refine k_aload_n (pc := 20) i_138_20 rfl rfl ?_
    refine k_iload_n (pc := 21) i_138_21 rfl ?_
    refine k_iconst (pc := 22) (v := 2) i_138_22 (by decide) ?_
    obtain ⟨r8, M9, q10, hF⟩ := kBd_el hF
    refine kcv_I (pc := 23) (As := [.ref (A lMo), .int a1, .int 2]) (st := []) (A := A) (T := T) (r := r8) (M1 := M9) i_138_23 m_7_166 rfl rfl rfl rfl (rd_Mo R) rfl (Nat.le_of_ble_eq_true rfl) (D_117 R q10) (fun h R => ?_)
    refine k_iconst (pc := 26) (v := 1) i_138_26 (by decide) ?_
    refine k_icmp_ne (pc := 27) (tgt := 34) i_138_27 (by decide) (fun c11 => ?_) (fun c11 => ?_)
    · rw [if_neg c11] at hF
      refine k_iconst (pc := 34) (v := 0) i_138_34 (by decide) ?_
      exact W_138_35 (d := d) rfl R K hF
    · rw [if_pos c11] at hF
      refine k_iconst (pc := 30) (v := 1) i_138_30 (by decide) ?_
      refine k_goto (pc := 31) (tgt := 35) i_138_31 (by decide) ?_
      exact W_138_35 (d := d) rfl R K hF
  · rw [if_neg c4] at hF
    refine k_iconst (pc := 11) (v := 0) i_138_11 (by decide) ?_
    obtain rfl := Option.some.inj hF
    exact k_ireturn (pc := 12) i_138_12 rfl rfl (K _ R)
-- 139: RDModel groups
noncomputable def F_139_263 (T : kT) (a2 : Int32) (M : kM) : Option (Int32 × kM) :=
  kBd (F_123 T a2 M) (fun r20 M21 => some (1, M21))
set_option maxHeartbeats 1000000 in
theorem W_139_263 {G : kG} {d : Nat} {A : kLb → Nat} {C : kCl} {P : kO → kH → Prop} {T : kT} {M : kM} {h : kH} {a2 : Int32} {b1 b3 b4 b5 b6 b7 : Option Value} {z : (Int32 × kM)} (hC : C = kRun G (d + 1)) (R : kRl A T M h) (K : (fun z : (Int32 × kM) => ∀ h1, kRl A T z.2 h1 → P (.inl (some (.int z.1))) h1) z) (hF : F_139_263 T a2 M = some z) : kWP G 139 C P 263 [some (.ref (A lMo)), b1, some (.int a2), b3, b4, b5, b6, b7] [] h 0 0 := by
  unfold F_139_263 at hF
  refine k_aload_n (pc := 263) i_139_263 rfl rfl ?_
  refine k_iload_n (pc := 264) i_139_264 rfl ?_
  obtain ⟨r20, M21, q22, hF⟩ := kBd_el hF
  refine kcv_V (pc := 265) (As := [.ref (A lMo), .int a2]) (st := []) (A := A) (T := T) (r := r20) (M1 := M21) i_139_265 m_7_203 rfl rfl rfl rfl (rd_Mo R) rfl (Nat.le_of_ble_eq_true rfl) (hC ▸ D_123 R q22) (fun h R => ?_)
  refine k_iconst (pc := 268) (v := 1) i_139_268 (by decide) ?_
  obtain rfl := Option.some.inj hF
  exact k_ireturn (pc := 269) i_139_269 rfl rfl (K _ R)
noncomputable def F_139_252 (T : kT) (a2 : Int32) (a4 : Int32) (a7 : Int32) (M : kM) : Option (Int32 × kM) :=
  kGx (a7 + 1) 108000 (F_139_263 T a2 (sp M (lMa 27) (a7 + 1).toNatClampNeg a4))
set_option maxHeartbeats 1000000 in
theorem W_139_252 {G : kG} {d : Nat} {A : kLb → Nat} {C : kCl} {P : kO → kH → Prop} {T : kT} {M : kM} {h : kH} {a2 : Int32} {a4 : Int32} {a7 : Int32} {b1 b3 b5 b6 : Option Value} {z : (Int32 × kM)} (hC : C = kRun G (d + 1)) (R : kRl A T M h) (K : (fun z : (Int32 × kM) => ∀ h1, kRl A T z.2 h1 → P (.inl (some (.int z.1))) h1) z) (hF : F_139_252 T a2 a4 a7 M = some z) : kWP G 139 C P 252 [some (.ref (A lMo)), b1, some (.int a2), b3, some (.int a4), b5, b6, some (.int a7)] [] h 0 0 := by
  unfold F_139_252 at hF
  refine k_aload_n (pc := 252) i_139_252 rfl rfl ?_
  refine k_getf (pc := 253) i_139_253 f_7_61 (rd_Mo R) rfl ?_
  refine k_iload (pc := 256) i_139_256 rfl ?_
  refine k_iconst (pc := 258) (v := 1) i_139_258 (by decide) ?_
  refine k_iadd (pc := 259) i_139_259 ?_
  refine k_iload (pc := 260) i_139_260 rfl ?_
  obtain ⟨g22, hF⟩ := kGx_el hF
  refine k_iast (pc := 262) i_139_262 (rd_Ma_27 R) g22 (fun h e23 => ?_)
  replace R := kRl_sp (l := (lMa 27)) (k := (a7 + 1).toNatClampNeg) (v := a4) R rfl e23
  clear e23
  exact W_139_263 (d := d) hC R K hF
noncomputable def F_139_232 (T : kT) (a2 : Int32) (a4 : Int32) (a5 : Int32) (a7 : Int32) (M : kM) : Option (Int32 × kM) :=
  if a5 = 3 then (kGx (a7 + 1) 108000 (if a4 ≤ (gp M (lMa 27) (a7 + 1).toNatClampNeg) then (F_139_263 T a2 M) else (F_139_252 T a2 a4 a7 M))) else (F_139_263 T a2 M)
set_option maxHeartbeats 1000000 in
theorem W_139_232 {G : kG} {d : Nat} {A : kLb → Nat} {C : kCl} {P : kO → kH → Prop} {T : kT} {M : kM} {h : kH} {a2 : Int32} {a4 : Int32} {a5 : Int32} {a7 : Int32} {b1 b3 b6 : Option Value} {z : (Int32 × kM)} (hC : C = kRun G (d + 1)) (R : kRl A T M h) (K : (fun z : (Int32 × kM) => ∀ h1, kRl A T z.2 h1 → P (.inl (some (.int z.1))) h1) z) (hF : F_139_232 T a2 a4 a5 a7 M = some z) : kWP G 139 C P 232 [some (.ref (A lMo)), b1, some (.int a2), b3, some (.int a4), some (.int a5), b6, some (.int a7)] [] h 0 0 := by
  unfold F_139_232 at hF
  refine k_iload (pc := 232) i_139_232 rfl ?_
  refine k_iconst (pc := 234) (v := 3) i_139_234 (by decide) ?_
  refine k_icmp_ne (pc := 235) (tgt := 263) i_139_235 (by decide) (fun c19 => ?_) (fun c19 => ?_)
  · rw [if_neg c19] at hF
    exact W_139_263 (d := d) hC R K hF
  · rw [if_pos c19] at hF
    refine k_iload (pc := 238) i_139_238 rfl ?_
    refine k_aload_n (pc := 240) i_139_240 rfl rfl ?_
    refine k_getf (pc := 241) i_139_241 f_7_61 (rd_Mo R) rfl ?_
    refine k_iload (pc := 244) i_139_244 rfl ?_
    refine k_iconst (pc := 246) (v := 1) i_139_246 (by decide) ?_
    refine k_iadd (pc := 247) i_139_247 ?_
    obtain ⟨g20, hF⟩ := kGx_el hF
    refine k_iald (pc := 248) i_139_248 (rd_Ma_27 R) g20 ?_
    refine k_icmp_le (pc := 249) (tgt := 263) i_139_249 (by decide) (fun c21 => ?_) (fun c21 => ?_)
    · rw [if_pos c21] at hF
      exact W_139_263 (d := d) hC R K hF
    · rw [if_neg c21] at hF
      exact W_139_252 (d := d) hC R K hF
noncomputable def F_139_212 (T : kT) (a2 : Int32) (a4 : Int32) (a5 : Int32) (a7 : Int32) (M : kM) : Option (Int32 × kM) :=
  if a5 = 2 then (kGx (a7 + 1) 108000 (if a4 < (gp M (lMa 27) (a7 + 1).toNatClampNeg) then (F_139_252 T a2 a4 a7 M) else (F_139_232 T a2 a4 a5 a7 M))) else (F_139_232 T a2 a4 a5 a7 M)
set_option maxHeartbeats 1000000 in
theorem W_139_212 {G : kG} {d : Nat} {A : kLb → Nat} {C : kCl} {P : kO → kH → Prop} {T : kT} {M : kM} {h : kH} {a2 : Int32} {a4 : Int32} {a5 : Int32} {a7 : Int32} {b1 b3 b6 : Option Value} {z : (Int32 × kM)} (hC : C = kRun G (d + 1)) (R : kRl A T M h) (K : (fun z : (Int32 × kM) => ∀ h1, kRl A T z.2 h1 → P (.inl (some (.int z.1))) h1) z) (hF : F_139_212 T a2 a4 a5 a7 M = some z) : kWP G 139 C P 212 [some (.ref (A lMo)), b1, some (.int a2), b3, some (.int a4), some (.int a5), b6, some (.int a7)] [] h 0 0 := by
  unfold F_139_212 at hF
  refine k_iload (pc := 212) i_139_212 rfl ?_
  refine k_iconst (pc := 214) (v := 2) i_139_214 (by decide) ?_
  refine k_icmp_ne (pc := 215) (tgt := 232) i_139_215 (by decide) (fun c18 => ?_) (fun c18 => ?_)
  · rw [if_neg c18] at hF
    exact W_139_232 (d := d) hC R K hF
  · rw [if_pos c18] at hF
    refine k_iload (pc := 218) i_139_218 rfl ?_
    refine k_aload_n (pc := 220) i_139_220 rfl rfl ?_
    refine k_getf (pc := 221) i_139_221 f_7_61 (rd_Mo R) rfl ?_
    refine k_iload (pc := 224) i_139_224 rfl ?_
    refine k_iconst (pc := 226) (v := 1) i_139_226 (by decide) ?_
    refine k_iadd (pc := 227) i_139_227 ?_
    obtain ⟨g19, hF⟩ := kGx_el hF
    refine k_iald (pc := 228) i_139_228 (rd_Ma_27 R) g19 ?_
    refine k_icmp_lt (pc := 229) (tgt := 252) i_139_229 (by decide) (fun c20 => ?_) (fun c20 => ?_)
    · rw [if_pos c20] at hF
      exact W_139_252 (d := d) hC R K hF
    · rw [if_neg c20] at hF
      exact W_139_232 (d := d) hC R K hF
noncomputable def F_139_185 (T : kT) (a2 : Int32) (a4 : Int32) (a5 : Int32) (a7 : Int32) (M : kM) : Option (Int32 × kM) :=
  if a5 = 1 then (kGx (a7 + 1) 108000 (kGx (a7 + 1) 108000 (F_139_212 T a2 a4 a5 a7 (sp M (lMa 27) (a7 + 1).toNatClampNeg ((gp M (lMa 27) (a7 + 1).toNatClampNeg) + a4))))) else (F_139_212 T a2 a4 a5 a7 M)
set_option maxHeartbeats 1000000 in
theorem W_139_185 {G : kG} {d : Nat} {A : kLb → Nat} {C : kCl} {P : kO → kH → Prop} {T : kT} {M : kM} {h : kH} {a2 : Int32} {a4 : Int32} {a5 : Int32} {a7 : Int32} {b1 b3 b6 : Option Value} {z : (Int32 × kM)} (hC : C = kRun G (d + 1)) (R : kRl A T M h) (K : (fun z : (Int32 × kM) => ∀ h1, kRl A T z.2 h1 → P (.inl (some (.int z.1))) h1) z) (hF : F_139_185 T a2 a4 a5 a7 M = some z) : kWP G 139 C P 185 [some (.ref (A lMo)), b1, some (.int a2), b3, some (.int a4), some (.int a5), b6, some (.int a7)] [] h 0 0 := by
  unfold F_139_185 at hF
  refine k_iload (pc := 185) i_139_185 rfl ?_
  refine k_iconst (pc := 187) (v := 1) i_139_187 (by decide) ?_
  refine k_icmp_ne (pc := 188) (tgt := 212) i_139_188 (by decide) (fun c17 => ?_) (fun c17 => ?_)
  · rw [if_neg c17] at hF
    exact W_139_212 (d := d) hC R K hF
  · rw [if_pos c17] at hF
    refine k_aload_n (pc := 191) i_139_191 rfl rfl ?_
    refine k_getf (pc := 192) i_139_192 f_7_61 (rd_Mo R) rfl ?_
    refine k_iload (pc := 195) i_139_195 rfl ?_
    refine k_iconst (pc := 197) (v := 1) i_139_197 (by decide) ?_
    refine k_iadd (pc := 198) i_139_198 ?_
    refine k_aload_n (pc := 199) i_139_199 rfl rfl ?_
    refine k_getf (pc := 200) i_139_200 f_7_61 (rd_Mo R) rfl ?_
    refine k_iload (pc := 203) i_139_203 rfl ?_
    refine k_iconst (pc := 205) (v := 1) i_139_205 (by decide) ?_
    refine k_iadd (pc := 206) i_139_206 ?_
    obtain ⟨g18, hF⟩ := kGx_el hF
    refine k_iald (pc := 207) i_139_207 (rd_Ma_27 R) g18 ?_
    refine k_iload (pc := 208) i_139_208 rfl ?_
    refine k_iadd (pc := 210) i_139_210 ?_
    obtain ⟨g19, hF⟩ := kGx_el hF
    refine k_iast (pc := 211) i_139_211 (rd_Ma_27 R) g19 (fun h e20 => ?_)
    replace R := kRl_sp (l := (lMa 27)) (k := (a7 + 1).toNatClampNeg) (v := (gp M (lMa 27) (a7 + 1).toNatClampNeg) + a4) R rfl e20
    clear e20
    exact W_139_212 (d := d) hC R K hF
noncomputable def F_139_167 (T : kT) (a2 : Int32) (a4 : Int32) (a5 : Int32) (a7 : Int32) (M : kM) : Option (Int32 × kM) :=
  if a5 = 0 then (kGx (a7 + 1) 108000 (kGx (a7 + 1) 108000 (F_139_185 T a2 a4 a5 a7 (sp M (lMa 27) (a7 + 1).toNatClampNeg ((gp M (lMa 27) (a7 + 1).toNatClampNeg) + 1))))) else (F_139_185 T a2 a4 a5 a7 M)
set_option maxHeartbeats 1000000 in
theorem W_139_167 {G : kG} {d : Nat} {A : kLb → Nat} {C : kCl} {P : kO → kH → Prop} {T : kT} {M : kM} {h : kH} {a2 : Int32} {a4 : Int32} {a5 : Int32} {a7 : Int32} {b1 b3 b6 : Option Value} {z : (Int32 × kM)} (hC : C = kRun G (d + 1)) (R : kRl A T M h) (K : (fun z : (Int32 × kM) => ∀ h1, kRl A T z.2 h1 → P (.inl (some (.int z.1))) h1) z) (hF : F_139_167 T a2 a4 a5 a7 M = some z) : kWP G 139 C P 167 [some (.ref (A lMo)), b1, some (.int a2), b3, some (.int a4), some (.int a5), b6, some (.int a7)] [] h 0 0 := by
  unfold F_139_167 at hF
  refine k_iload (pc := 167) i_139_167 rfl ?_
  refine k_if_ne (pc := 169) (tgt := 185) i_139_169 (by decide) (fun c16 => ?_) (fun c16 => ?_)
  · rw [if_neg c16] at hF
    exact W_139_185 (d := d) hC R K hF
  · rw [if_pos c16] at hF
    refine k_aload_n (pc := 172) i_139_172 rfl rfl ?_
    refine k_getf (pc := 173) i_139_173 f_7_61 (rd_Mo R) rfl ?_
    refine k_iload (pc := 176) i_139_176 rfl ?_
    refine k_iconst (pc := 178) (v := 1) i_139_178 (by decide) ?_
    refine k_iadd (pc := 179) i_139_179 ?_
    refine k_dup2 (pc := 180) i_139_180 rfl rfl ?_
    obtain ⟨g17, hF⟩ := kGx_el hF
    refine k_iald (pc := 181) i_139_181 (rd_Ma_27 R) g17 ?_
    refine k_iconst (pc := 182) (v := 1) i_139_182 (by decide) ?_
    refine k_iadd (pc := 183) i_139_183 ?_
    obtain ⟨g18, hF⟩ := kGx_el hF
    refine k_iast (pc := 184) i_139_184 (rd_Ma_27 R) g18 (fun h e19 => ?_)
    replace R := kRl_sp (l := (lMa 27)) (k := (a7 + 1).toNatClampNeg) (v := (gp M (lMa 27) (a7 + 1).toNatClampNeg) + 1) R rfl e19
    clear e19
    exact W_139_185 (d := d) hC R K hF
noncomputable def F_139_156 (T : kT) (a1 : Int32) (a2 : Int32) (a4 : Int32) (a5 : Int32) (a7 : Int32) (s0 : Int32) (s1 : Int32) (M : kM) : Option (Int32 × kM) :=
  kGx s1 108000 (kGx a1 60 (kGx a1 60 (F_139_167 T a2 a4 a5 a7 (sp (sp M (lMa 27) s1.toNatClampNeg s0) (lMa 26) a1.toNatClampNeg ((gp (sp M (lMa 27) s1.toNatClampNeg s0) (lMa 26) a1.toNatClampNeg) + 1)))))
set_option maxHeartbeats 1000000 in
theorem W_139_156 {G : kG} {d : Nat} {A : kLb → Nat} {C : kCl} {P : kO → kH → Prop} {T : kT} {M : kM} {h : kH} {a1 : Int32} {a2 : Int32} {a4 : Int32} {a5 : Int32} {a7 : Int32} {s0 : Int32} {s1 : Int32} {b3 b6 : Option Value} {z : (Int32 × kM)} (hC : C = kRun G (d + 1)) (R : kRl A T M h) (K : (fun z : (Int32 × kM) => ∀ h1, kRl A T z.2 h1 → P (.inl (some (.int z.1))) h1) z) (hF : F_139_156 T a1 a2 a4 a5 a7 s0 s1 M = some z) : kWP G 139 C P 156 [some (.ref (A lMo)), some (.int a1), some (.int a2), b3, some (.int a4), some (.int a5), b6, some (.int a7)] [.int s0, .int s1, .ref (A (lMa 27))] h 0 0 := by
  unfold F_139_156 at hF
  obtain ⟨g24, hF⟩ := kGx_el hF
  refine k_iast (pc := 156) i_139_156 (rd_Ma_27 R) g24 (fun h e25 => ?_)
  replace R := kRl_sp (l := (lMa 27)) (k := s1.toNatClampNeg) (v := s0) R rfl e25
  clear e25
  refine k_aload_n (pc := 157) i_139_157 rfl rfl ?_
  refine k_getf (pc := 158) i_139_158 f_7_57 (rd_Mo R) rfl ?_
  refine k_iload_n (pc := 161) i_139_161 rfl ?_
  refine k_dup2 (pc := 162) i_139_162 rfl rfl ?_
  obtain ⟨g26, hF⟩ := kGx_el hF
  refine k_iald (pc := 163) i_139_163 (rd_Ma_26 R) g26 ?_
  refine k_iconst (pc := 164) (v := 1) i_139_164 (by decide) ?_
  refine k_iadd (pc := 165) i_139_165 ?_
  obtain ⟨g27, hF⟩ := kGx_el hF
  refine k_iast (pc := 166) i_139_166 (rd_Ma_26 R) g27 (fun h e28 => ?_)
  replace R := kRl_sp (l := (lMa 26)) (k := a1.toNatClampNeg) (v := (gp (sp M (lMa 27) s1.toNatClampNeg s0) (lMa 26) a1.toNatClampNeg) + 1) R rfl e28
  clear e28
  exact W_139_167 (d := d) hC R K hF
noncomputable def F_139_83 (T : kT) (a1 : Int32) (a2 : Int32) (a3 : Int32) (a4 : Int32) (a5 : Int32) (a6 : Int32) (M : kM) : Option (Int32 × kM) :=
  kGx a1 60 (if a6 = (gp M (lMa 26) a1.toNatClampNeg) then (kBd (F_134 T a1 60 M) (fun r16 M17 => if r16 = 0 then (kGx (((a1 * 150) + a6) * 12) 108000 (if a5 = 0 then (F_139_156 T a1 a2 a4 a5 (((a1 * 150) + a6) * 12) 0 ((((a1 * 150) + a6) * 12) + 1) (sp M17 (lMa 27) (((a1 * 150) + a6) * 12).toNatClampNeg a3)) else (if a5 = 1 then (F_139_156 T a1 a2 a4 a5 (((a1 * 150) + a6) * 12) 0 ((((a1 * 150) + a6) * 12) + 1) (sp M17 (lMa 27) (((a1 * 150) + a6) * 12).toNatClampNeg a3)) else (F_139_156 T a1 a2 a4 a5 (((a1 * 150) + a6) * 12) a4 ((((a1 * 150) + a6) * 12) + 1) (sp M17 (lMa 27) (((a1 * 150) + a6) * 12).toNatClampNeg a3))))) else (some (0, M17)))) else (F_139_167 T a2 a4 a5 (((a1 * 150) + a6) * 12) M))
set_option maxHeartbeats 1000000 in
theorem W_139_83 {G : kG} {d : Nat} {A : kLb → Nat} {C : kCl} {P : kO → kH → Prop} {T : kT} {M : kM} {h : kH} {a1 : Int32} {a2 : Int32} {a3 : Int32} {a4 : Int32} {a5 : Int32} {a6 : Int32} {b7 : Option Value} {z : (Int32 × kM)} (hC : C = kRun G (d + 1)) (R : kRl A T M h) (K : (fun z : (Int32 × kM) => ∀ h1, kRl A T z.2 h1 → P (.inl (some (.int z.1))) h1) z) (hF : F_139_83 T a1 a2 a3 a4 a5 a6 M = some z) : kWP G 139 C P 83 [some (.ref (A lMo)), some (.int a1), some (.int a2), some (.int a3), some (.int a4), some (.int a5), some (.int a6), b7] [] h 0 0 := by
  unfold F_139_83 at hF
  refine k_iload_n (pc := 83) i_139_83 rfl ?_
  refine k_sipush (pc := 84) (v := 150) i_139_84 (by decide) ?_
  refine k_imul (pc := 87) i_139_87 ?_
  refine k_iload (pc := 88) i_139_88 rfl ?_
  refine k_iadd (pc := 90) i_139_90 ?_
  refine k_bipush (pc := 91) (v := 12) i_139_91 (by decide) ?_
  refine k_imul (pc := 93) i_139_93 ?_
  refine k_istore (pc := 94) (lo2 := [some (.ref (A lMo)), some (.int a1), some (.int a2), some (.int a3), some (.int a4), some (.int a5), some (.int a6), some (.int (((a1 * 150) + a6) * 12))]) i_139_94 (Nat.le_of_ble_eq_true rfl) rfl ?_
  refine k_iload (pc := 96) i_139_96 rfl ?_
  refine k_aload_n (pc := 98) i_139_98 rfl rfl ?_
  refine k_getf (pc := 99) i_139_99 f_7_57 (rd_Mo R) rfl ?_
  refine k_iload_n (pc := 102) i_139_102 rfl ?_
  obtain ⟨g14, hF⟩ := kGx_el hF
  refine k_iald (pc := 103) i_139_103 (rd_Ma_26 R) g14 ?_
  refine k_icmp_ne (pc := 104) (tgt := 167) i_139_104 (by decide) (fun c15 => ?_) (fun c15 => ?_)
  · rw [if_neg c15] at hF
    exact W_139_167 (d := d) hC R K hF
  · rw [if_pos c15] at hF
    refine k_aload_n (pc := 107) i_139_107 rfl rfl ?_
    refine k_iload_n (pc := 108) i_139_108 rfl ?_
    refine k_bipush (pc := 109) (v := 60) i_139_109 (by decide) ?_
    obtain ⟨r16, M17, q18, hF⟩ := kBd_el hF
    refine kcv_I (pc := 111) (As := [.ref (A lMo), .int a1, .int 60]) (st := []) (A := A) (T := T) (r := r16) (M1 := M17) i_139_111 m_7_229 rfl rfl rfl rfl (rd_Mo R) rfl (Nat.le_of_ble_eq_true rfl) (hC ▸ D_134 R q18) (fun h R => ?_)
    refine k_if_eq (pc := 114) (tgt := 119) i_139_114 (by decide) (fun c19 => ?_) (fun c19 => ?_)
    · rw [if_pos c19] at hF
      refine k_aload_n (pc := 119) i_139_119 rfl rfl ?_
      refine k_getf (pc := 120) i_139_120 f_7_61 (rd_Mo R) rfl ?_
      refine k_iload (pc := 123) i_139_123 rfl ?_
      refine k_iload_n (pc := 125) i_139_125 rfl ?_
      obtain ⟨g20, hF⟩ := kGx_el hF
      refine k_iast (pc := 126) i_139_126 (rd_Ma_27 R) g20 (fun h e21 => ?_)
      replace R := kRl_sp (l := (lMa 27)) (k := (((a1 * 150) + a6) * 12).toNatClampNeg) (v := a3) R rfl e21
      clear e21
      refine k_aload_n (pc := 127) i_139_127 rfl rfl ?_
      refine k_getf (pc := 128) i_139_128 f_7_61 (rd_Mo R) rfl ?_
      refine k_iload (pc := 131) i_139_131 rfl ?_
      refine k_iconst (pc := 133) (v := 1) i_139_133 (by decide) ?_
      refine k_iadd (pc := 134) i_139_134 ?_
      refine k_iload (pc := 135) i_139_135 rfl ?_
      refine k_if_ne (pc := 137) (tgt := 144) i_139_137 (by decide) (fun c22 => ?_) (fun c22 => ?_)
      · rw [if_neg c22] at hF
        refine k_iload (pc := 144) i_139_144 rfl ?_
        refine k_iconst (pc := 146) (v := 1) i_139_146 (by decide) ?_
        refine k_icmp_ne (pc := 147) (tgt := 154) i_139_147 (by decide) (fun c23 => ?_) (fun c23 => ?_)
        · rw [if_neg c23] at hF
          refine k_iload (pc := 154) i_139_154 rfl ?_
          exact W_139_156 (d := d) hC R K hF
        · rw [if_pos c23] at hF
          refine k_iconst (pc := 150) (v := 0) i_139_150 (by decide) ?_
          refine k_goto (pc := 151) (tgt := 156) i_139_151 (by decide) ?_
          exact W_139_156 (d := d) hC R K hF
      · rw [if_pos c22] at hF
        refine k_iconst (pc := 140) (v := 0) i_139_140 (by decide) ?_
        refine k_goto (pc := 141) (tgt := 156) i_139_141 (by decide) ?_
        exact W_139_156 (d := d) hC R K hF
    · rw [if_neg c19] at hF
      refine k_iconst (pc := 117) (v := 0) i_139_117 (by decide) ?_
      obtain rfl := Option.some.inj hF
      exact k_ireturn (pc := 118) i_139_118 rfl rfl (K _ R)
noncomputable def B_139_46 (T : kT) (a1 : Int32) (a2 : Int32) (a3 : Int32) (a4 : Int32) (a5 : Int32) (a6 : Int32) (M : kM) : Option ((Int32 × kM) ⊕ (Int32 × kM)) :=
  kGx a1 60 (if (gp M (lMa 26) a1.toNatClampNeg) ≤ a6 then (kLf (F_139_83 T a1 a2 a3 a4 a5 a6 M)) else (kGx (((a1 * 150) + a6) * 12) 108000 (if (gp M (lMa 27) (((a1 * 150) + a6) * 12).toNatClampNeg) = a3 then (kLf (F_139_83 T a1 a2 a3 a4 a5 a6 M)) else (some (.inl ((a6 + 1), M))))))
noncomputable def F_139_46 (T : kT) (a1 : Int32) (a2 : Int32) (a3 : Int32) (a4 : Int32) (a5 : Int32) (a6 : Int32) (M : kM) : Option (Int32 × kM) :=
  kWh (fun w : (Int32 × kM) => B_139_46 T a1 a2 a3 a4 a5 w.1 w.2) (a6, M)
theorem F_139_46_eq (T : kT) (a1 : Int32) (a2 : Int32) (a3 : Int32) (a4 : Int32) (a5 : Int32) (a6 : Int32) (M : kM) : F_139_46 T a1 a2 a3 a4 a5 a6 M = kAg (B_139_46 T a1 a2 a3 a4 a5 a6 M) (fun w => F_139_46 T a1 a2 a3 a4 a5 w.1 w.2) := by
  unfold F_139_46
  rw [kWh_eq]
set_option maxHeartbeats 1000000 in
theorem W_139_46 {G : kG} {d : Nat} {A : kLb → Nat} {C : kCl} {P : kO → kH → Prop} {T : kT} {M : kM} {h : kH} {a1 : Int32} {a2 : Int32} {a3 : Int32} {a4 : Int32} {a5 : Int32} {a6 : Int32} {b7 : Option Value} {z : (Int32 × kM)} (hC : C = kRun G (d + 1)) (R : kRl A T M h) (K : (fun z : (Int32 × kM) => ∀ h1, kRl A T z.2 h1 → P (.inl (some (.int z.1))) h1) z) (hF : F_139_46 T a1 a2 a3 a4 a5 a6 M = some z) : kWP G 139 C P 46 [some (.ref (A lMo)), some (.int a1), some (.int a2), some (.int a3), some (.int a4), some (.int a5), some (.int a6), b7] [] h 0 0 := by
  refine kWh_ind (P := (fun w : (Int32 × kM) => ∀ (h : kH) (b7 : Option Value), kRl A T w.2 h → kWP G 139 C P 46 [some (.ref (A lMo)), some (.int a1), some (.int a2), some (.int a3), some (.int a4), some (.int a5), some (.int w.1), b7] [] h 0 0)) (Q := (fun z : (Int32 × kM) => ∀ h1, kRl A T z.2 h1 → P (.inl (some (.int z.1))) h1)) hF K ?_ h _ R
  clear hF K R
  intro w z hF K h b7 R
  obtain ⟨a6, M⟩ := w
  change B_139_46 T a1 a2 a3 a4 a5 a6 M = some z at hF
  change kWP G 139 C P 46 [some (.ref (A lMo)), some (.int a1), some (.int a2), some (.int a3), some (.int a4), some (.int a5), some (.int a6), b7] [] h 0 0
  unfold B_139_46 at hF
  refine k_iload (pc := 46) i_139_46 rfl ?_
  refine k_aload_n (pc := 48) i_139_48 rfl rfl ?_
  refine k_getf (pc := 49) i_139_49 f_7_57 (rd_Mo R) rfl ?_
  refine k_iload_n (pc := 52) i_139_52 rfl ?_
  obtain ⟨g12, hF⟩ := kGx_el hF
  refine k_iald (pc := 53) i_139_53 (rd_Ma_26 R) g12 ?_
  refine k_icmp_ge (pc := 54) (tgt := 83) i_139_54 (by decide) (fun c13 => ?_) (fun c13 => ?_)
  · rw [if_pos c13] at hF
    obtain ⟨z, hG, rfl⟩ := kLf_el hF
    replace hF := hG
    clear hG
    exact W_139_83 (d := d) hC R K hF
  · rw [if_neg c13] at hF
    refine k_aload_n (pc := 57) i_139_57 rfl rfl ?_
    refine k_getf (pc := 58) i_139_58 f_7_61 (rd_Mo R) rfl ?_
    refine k_iload_n (pc := 61) i_139_61 rfl ?_
    refine k_sipush (pc := 62) (v := 150) i_139_62 (by decide) ?_
    refine k_imul (pc := 65) i_139_65 ?_
    refine k_iload (pc := 66) i_139_66 rfl ?_
    refine k_iadd (pc := 68) i_139_68 ?_
    refine k_bipush (pc := 69) (v := 12) i_139_69 (by decide) ?_
    refine k_imul (pc := 71) i_139_71 ?_
    obtain ⟨g14, hF⟩ := kGx_el hF
    refine k_iald (pc := 72) i_139_72 (rd_Ma_27 R) g14 ?_
    refine k_iload_n (pc := 73) i_139_73 rfl ?_
    refine k_icmp_eq (pc := 74) (tgt := 83) i_139_74 (by decide) (fun c15 => ?_) (fun c15 => ?_)
    · rw [if_pos c15] at hF
      obtain ⟨z, hG, rfl⟩ := kLf_el hF
      replace hF := hG
      clear hG
      exact W_139_83 (d := d) hC R K hF
    · rw [if_neg c15] at hF
      refine k_iinc (pc := 77) (v := a6 + 1) (lo2 := [some (.ref (A lMo)), some (.int a1), some (.int a2), some (.int a3), some (.int a4), some (.int a5), some (.int (a6 + 1)), b7]) i_139_77 rfl rfl rfl ?_
      refine k_goto (pc := 80) (tgt := 46) i_139_80 (by decide) ?_
      obtain rfl := Option.some.inj hF
      exact K _ _ R
noncomputable def F_139 (T : kT) (a1 : Int32) (a2 : Int32) (M : kM) : Option (Int32 × kM) :=
  kBd (F_117 T a1 1 M) (fun r1 M2 => kGx ((a2 * 12) + r1) 720 (kBd (F_117 T a1 3 M2) (fun r5 M6 => kGx ((a2 * 12) + r5) 720 (kBd (F_117 T a1 2 M6) (fun r9 M10 => F_139_46 T a1 a2 (gp M2 (lMa 28) ((a2 * 12) + r1).toNatClampNeg) (gp M6 (lMa 28) ((a2 * 12) + r5).toNatClampNeg) r9 0 M10)))))
set_option maxHeartbeats 1000000 in
theorem D_139 {G : kG} {d : Nat} {A : kLb → Nat} {T : kT} {M : kM} {h : kH} {a1 : Int32} {a2 : Int32} {z : (Int32 × kM)} (R : kRl A T M h) (hF : F_139 T a1 a2 M = some z) : kRun G (d + 2) 139 [.ref (A lMo), .int a1, .int a2] h 0 0 (kPI A T z) := by
  refine ⟨⟨rfl, Nat.le_of_ble_eq_true rfl⟩, ?_⟩
  show kWP _ _ (kRun G (d + 1)) _ 0 [some (.ref (A lMo)), some (.int a1), some (.int a2), none, none, none, none, none] [] _ _ _
  have K : (fun z : (Int32 × kM) => ∀ h1, kRl A T z.2 h1 → kPI A T z (.inl (some (.int z.1))) h1) z := fun _ q => ⟨rfl, q⟩
  unfold F_139 at hF
  refine k_aload_n (pc := 0) i_139_0 rfl rfl ?_
  refine k_getf (pc := 1) i_139_1 f_7_64 (rd_Mo R) rfl ?_
  refine k_iload_n (pc := 4) i_139_4 rfl ?_
  refine k_bipush (pc := 5) (v := 12) i_139_5 (by decide) ?_
  refine k_imul (pc := 7) i_139_7 ?_
  refine k_aload_n (pc := 8) i_139_8 rfl rfl ?_
  refine k_iload_n (pc := 9) i_139_9 rfl ?_
  refine k_iconst (pc := 10) (v := 1) i_139_10 (by decide) ?_
  obtain ⟨r1, M2, q3, hF⟩ := kBd_el hF
  refine kcv_I (pc := 11) (As := [.ref (A lMo), .int a1, .int 1]) (st := [.int (a2 * 12), .ref (A (lMa 28))]) (A := A) (T := T) (r := r1) (M1 := M2) i_139_11 m_7_166 rfl rfl rfl rfl (rd_Mo R) rfl (Nat.le_of_ble_eq_true rfl) (D_117 R q3) (fun h R => ?_)
  refine k_iadd (pc := 14) i_139_14 ?_
  obtain ⟨g4, hF⟩ := kGx_el hF
  refine k_iald (pc := 15) i_139_15 (rd_Ma_28 R) g4 ?_
  refine k_istore_n (pc := 16) (lo2 := [some (.ref (A lMo)), some (.int a1), some (.int a2), some (.int (gp M2 (lMa 28) ((a2 * 12) + r1).toNatClampNeg)), none, none, none, none]) i_139_16 (Nat.le_of_ble_eq_true rfl) rfl ?_
  refine k_aload_n (pc := 17) i_139_17 rfl rfl ?_
  refine k_getf (pc := 18) i_139_18 f_7_64 (rd_Mo R) rfl ?_
  refine k_iload_n (pc := 21) i_139_21 rfl ?_
  refine k_bipush (pc := 22) (v := 12) i_139_22 (by decide) ?_
  refine k_imul (pc := 24) i_139_24 ?_
  refine k_aload_n (pc := 25) i_139_25 rfl rfl ?_
  refine k_iload_n (pc := 26) i_139_26 rfl ?_
  refine k_iconst (pc := 27) (v := 3) i_139_27 (by decide) ?_
  obtain ⟨r5, M6, q7, hF⟩ := kBd_el hF
  refine kcv_I (pc := 28) (As := [.ref (A lMo), .int a1, .int 3]) (st := [.int (a2 * 12), .ref (A (lMa 28))]) (A := A) (T := T) (r := r5) (M1 := M6) i_139_28 m_7_166 rfl rfl rfl rfl (rd_Mo R) rfl (Nat.le_of_ble_eq_true rfl) (D_117 R q7) (fun h R => ?_)
  refine k_iadd (pc := 31) i_139_31 ?_
  obtain ⟨g8, hF⟩ := kGx_el hF
  refine k_iald (pc := 32) i_139_32 (rd_Ma_28 R) g8 ?_
  refine k_istore (pc := 33) (lo2 := [some (.ref (A lMo)), some (.int a1), some (.int a2), some (.int (gp M2 (lMa 28) ((a2 * 12) + r1).toNatClampNeg)), some (.int (gp M6 (lMa 28) ((a2 * 12) + r5).toNatClampNeg)), none, none, none]) i_139_33 (Nat.le_of_ble_eq_true rfl) rfl ?_
  refine k_aload_n (pc := 35) i_139_35 rfl rfl ?_
  refine k_iload_n (pc := 36) i_139_36 rfl ?_
  refine k_iconst (pc := 37) (v := 2) i_139_37 (by decide) ?_
  obtain ⟨r9, M10, q11, hF⟩ := kBd_el hF
  refine kcv_I (pc := 38) (As := [.ref (A lMo), .int a1, .int 2]) (st := []) (A := A) (T := T) (r := r9) (M1 := M10) i_139_38 m_7_166 rfl rfl rfl rfl (rd_Mo R) rfl (Nat.le_of_ble_eq_true rfl) (D_117 R q11) (fun h R => ?_)
  refine k_istore (pc := 41) (lo2 := [some (.ref (A lMo)), some (.int a1), some (.int a2), some (.int (gp M2 (lMa 28) ((a2 * 12) + r1).toNatClampNeg)), some (.int (gp M6 (lMa 28) ((a2 * 12) + r5).toNatClampNeg)), some (.int r9), none, none]) i_139_41 (Nat.le_of_ble_eq_true rfl) rfl ?_
  refine k_iconst (pc := 43) (v := 0) i_139_43 (by decide) ?_
  refine k_istore (pc := 44) (lo2 := [some (.ref (A lMo)), some (.int a1), some (.int a2), some (.int (gp M2 (lMa 28) ((a2 * 12) + r1).toNatClampNeg)), some (.int (gp M6 (lMa 28) ((a2 * 12) + r5).toNatClampNeg)), some (.int r9), some (.int 0), none]) i_139_44 (Nat.le_of_ble_eq_true rfl) rfl ?_
  exact W_139_46 (d := d) rfl R K hF
-- 131: RDModel comes
noncomputable def B_131_87 (T : kT) (a1 : Int32) (a2 : Int32) (a3 : Int32) (M : kM) : Option ((Int32 × kM) ⊕ (Int32 × kM)) :=
  kGx a1 60 (if (gp M (lMa 21) a1.toNatClampNeg) ≤ a3 then (kBd (F_124 T a1 1 M) (fun r18 M19 => some (.inr ((1, M19))))) else (kBd (F_117 T a1 (2 + a3) M) (fun r21 M22 => kGx ((a2 * 12) + r21) 720 (kGx ((a1 * 12) + a3) 720 (some (.inl ((a3 + 1), sp M22 (lMa 28) ((a1 * 12) + a3).toNatClampNeg (gp M22 (lMa 28) ((a2 * 12) + r21).toNatClampNeg))))))))
noncomputable def F_131_87 (T : kT) (a1 : Int32) (a2 : Int32) (a3 : Int32) (M : kM) : Option (Int32 × kM) :=
  kWh (fun w : (Int32 × kM) => B_131_87 T a1 a2 w.1 w.2) (a3, M)
theorem F_131_87_eq (T : kT) (a1 : Int32) (a2 : Int32) (a3 : Int32) (M : kM) : F_131_87 T a1 a2 a3 M = kAg (B_131_87 T a1 a2 a3 M) (fun w => F_131_87 T a1 a2 w.1 w.2) := by
  unfold F_131_87
  rw [kWh_eq]
set_option maxHeartbeats 1000000 in
theorem W_131_87 {G : kG} {d : Nat} {A : kLb → Nat} {C : kCl} {P : kO → kH → Prop} {T : kT} {M : kM} {h : kH} {a1 : Int32} {a2 : Int32} {a3 : Int32} {z : (Int32 × kM)} (hC : C = kRun G (d + 3)) (R : kRl A T M h) (K : (fun z : (Int32 × kM) => ∀ h1, kRl A T z.2 h1 → P (.inl (some (.int z.1))) h1) z) (hF : F_131_87 T a1 a2 a3 M = some z) : kWP G 131 C P 87 [some (.ref (A lMo)), some (.int a1), some (.int a2), some (.int a3)] [] h 0 0 := by
  refine kWh_ind (P := (fun w : (Int32 × kM) => ∀ (h : kH), kRl A T w.2 h → kWP G 131 C P 87 [some (.ref (A lMo)), some (.int a1), some (.int a2), some (.int w.1)] [] h 0 0)) (Q := (fun z : (Int32 × kM) => ∀ h1, kRl A T z.2 h1 → P (.inl (some (.int z.1))) h1)) hF K ?_ h R
  clear hF K R
  intro w z hF K h R
  obtain ⟨a3, M⟩ := w
  change B_131_87 T a1 a2 a3 M = some z at hF
  change kWP G 131 C P 87 [some (.ref (A lMo)), some (.int a1), some (.int a2), some (.int a3)] [] h 0 0
  unfold B_131_87 at hF
  refine k_iload_n (pc := 87) i_131_87 rfl ?_
  refine k_aload_n (pc := 88) i_131_88 rfl rfl ?_
  refine k_getf (pc := 89) i_131_89 f_7_54 (rd_Mo R) rfl ?_
  refine k_iload_n (pc := 92) i_131_92 rfl ?_
  obtain ⟨g16, hF⟩ := kGx_el hF
  refine k_iald (pc := 93) i_131_93 (rd_Ma_21 R) g16 ?_
  refine k_icmp_ge (pc := 94) (tgt := 132) i_131_94 (by decide) (fun c17 => ?_) (fun c17 => ?_)
  · rw [if_pos c17] at hF
    refine k_aload_n (pc := 132) i_131_132 rfl rfl ?_
    refine k_iload_n (pc := 133) i_131_133 rfl ?_
    refine k_iconst (pc := 134) (v := 1) i_131_134 (by decide) ?_
    obtain ⟨r18, M19, q20, hF⟩ := kBd_el hF
    refine kcv_V (pc := 135) (As := [.ref (A lMo), .int a1, .int 1]) (st := []) (A := A) (T := T) (r := r18) (M1 := M19) i_131_135 m_7_190 rfl rfl rfl rfl (rd_Mo R) rfl (Nat.le_of_ble_eq_true rfl) (hC ▸ D_124 R q20) (fun h R => ?_)
    refine k_iconst (pc := 138) (v := 1) i_131_138 (by decide) ?_
    obtain rfl := Option.some.inj hF
    exact k_ireturn (pc := 139) i_131_139 rfl rfl (K _ R)
  · rw [if_neg c17] at hF
    refine k_aload_n (pc := 97) i_131_97 rfl rfl ?_
    refine k_getf (pc := 98) i_131_98 f_7_64 (rd_Mo R) rfl ?_
    refine k_iload_n (pc := 101) i_131_101 rfl ?_
    refine k_bipush (pc := 102) (v := 12) i_131_102 (by decide) ?_
    refine k_imul (pc := 104) i_131_104 ?_
    refine k_iload_n (pc := 105) i_131_105 rfl ?_
    refine k_iadd (pc := 106) i_131_106 ?_
    refine k_aload_n (pc := 107) i_131_107 rfl rfl ?_
    refine k_getf (pc := 108) i_131_108 f_7_64 (rd_Mo R) rfl ?_
    refine k_iload_n (pc := 111) i_131_111 rfl ?_
    refine k_bipush (pc := 112) (v := 12) i_131_112 (by decide) ?_
    refine k_imul (pc := 114) i_131_114 ?_
    refine k_aload_n (pc := 115) i_131_115 rfl rfl ?_
    refine k_iload_n (pc := 116) i_131_116 rfl ?_
    refine k_iconst (pc := 117) (v := 2) i_131_117 (by decide) ?_
    refine k_iload_n (pc := 118) i_131_118 rfl ?_
    refine k_iadd (pc := 119) i_131_119 ?_
    obtain ⟨r21, M22, q23, hF⟩ := kBd_el hF
    refine kcv_I (pc := 120) (As := [.ref (A lMo), .int a1, .int (2 + a3)]) (st := [.int (a2 * 12), .ref (A (lMa 28)), .int ((a1 * 12) + a3), .ref (A (lMa 28))]) (A := A) (T := T) (r := r21) (M1 := M22) i_131_120 m_7_166 rfl rfl rfl rfl (rd_Mo R) rfl (Nat.le_of_ble_eq_true rfl) (hC ▸ D_117 R q23) (fun h R => ?_)
    refine k_iadd (pc := 123) i_131_123 ?_
    obtain ⟨g24, hF⟩ := kGx_el hF
    refine k_iald (pc := 124) i_131_124 (rd_Ma_28 R) g24 ?_
    obtain ⟨g25, hF⟩ := kGx_el hF
    refine k_iast (pc := 125) i_131_125 (rd_Ma_28 R) g25 (fun h e26 => ?_)
    replace R := kRl_sp (l := (lMa 28)) (k := ((a1 * 12) + a3).toNatClampNeg) (v := gp M22 (lMa 28) ((a2 * 12) + r21).toNatClampNeg) R rfl e26
    clear e26
    refine k_iinc (pc := 126) (v := a3 + 1) (lo2 := [some (.ref (A lMo)), some (.int a1), some (.int a2), some (.int (a3 + 1))]) i_131_126 rfl rfl rfl ?_
    refine k_goto (pc := 129) (tgt := 87) i_131_129 (by decide) ?_
    obtain rfl := Option.some.inj hF
    exact K _ R
noncomputable def F_131 (T : kT) (a1 : Int32) (a2 : Int32) (M : kM) : Option (Int32 × kM) :=
  kBd (F_118 T a1 M) (fun r1 M2 => if r1 = 1 then (kBd (F_133 T a1 a2 M2) (fun r5 M6 => if r5 = 0 then (kBd (F_123 T a2 M6) (fun r9 M10 => some (1, M10))) else (kBd (F_130 T a1 a2 M6) (fun r12 M13 => some (1, M13))))) else (if r1 = 2 then (F_131_87 T a1 a2 0 M2) else (if r1 = 3 then (kBd (F_132 T a1 a2 M2) (fun r17 M18 => some (1, M18))) else (if r1 = 4 then (kBd (F_132 T a1 a2 M2) (fun r21 M22 => some (1, M22))) else (if r1 = 5 then (kBd (F_130 T a1 a2 M2) (fun r25 M26 => some (1, M26))) else (if r1 = 6 then (kBd (F_137 T a1 a2 M2) (fun r29 M30 => kGd (r29 == 0 || r29 == 1) (some (r29, M30)))) else (if r1 = 7 then (kBd (F_138 T a1 a2 M2) (fun r34 M35 => kGd (r34 == 0 || r34 == 1) (some (r34, M35)))) else (if r1 = 8 then (kGx a1 60 (kGx a1 60 (kBd (F_130 T a1 a2 (sp M2 (lMa 26) a1.toNatClampNeg ((gp M2 (lMa 26) a1.toNatClampNeg) + 1))) (fun r42 M43 => some (1, M43))))) else (if r1 = 9 then (kGx a1 60 (kGx a1 60 (kBd (F_123 T a2 (sp M2 (lMa 26) a1.toNatClampNeg ((gp M2 (lMa 26) a1.toNatClampNeg) + 1))) (fun r49 M50 => some (1, M50))))) else (if r1 = 10 then (kBd (F_139 T a1 a2 M2) (fun r53 M54 => kGd (r53 == 0 || r53 == 1) (some (r53, M54)))) else (kBd (F_130 T a1 a2 M2) (fun r58 M59 => some (1, M59)))))))))))))
set_option maxHeartbeats 1000000 in
theorem D_131 {G : kG} {d : Nat} {A : kLb → Nat} {T : kT} {M : kM} {h : kH} {a1 : Int32} {a2 : Int32} {z : (Int32 × kM)} (R : kRl A T M h) (hF : F_131 T a1 a2 M = some z) : kRun G (d + 4) 131 [.ref (A lMo), .int a1, .int a2] h 0 0 (kPI A T z) := by
  refine ⟨⟨rfl, Nat.le_of_ble_eq_true rfl⟩, ?_⟩
  show kWP _ _ (kRun G (d + 3)) _ 0 [some (.ref (A lMo)), some (.int a1), some (.int a2), none] [] _ _ _
  have K : (fun z : (Int32 × kM) => ∀ h1, kRl A T z.2 h1 → kPI A T z (.inl (some (.int z.1))) h1) z := fun _ q => ⟨rfl, q⟩
  unfold F_131 at hF
  refine k_aload_n (pc := 0) i_131_0 rfl rfl ?_
  refine k_iload_n (pc := 1) i_131_1 rfl ?_
  obtain ⟨r1, M2, q3, hF⟩ := kBd_el hF
  refine kcv_I (pc := 2) (As := [.ref (A lMo), .int a1]) (st := []) (A := A) (T := T) (r := r1) (M1 := M2) i_131_2 m_7_155 rfl rfl rfl rfl (rd_Mo R) rfl (Nat.le_of_ble_eq_true rfl) (D_118 R q3) (fun h R => ?_)
  by_cases c4 : r1 = 1
  · rw [if_pos c4] at hF
    rw [c4]
    refine k_tswIn (pc := 5) (tgt := 60) i_131_5 (by decide) (by decide) rfl (by decide) ?_
    refine k_aload_n (pc := 60) i_131_60 rfl rfl ?_
    refine k_iload_n (pc := 61) i_131_61 rfl ?_
    refine k_iload_n (pc := 62) i_131_62 rfl ?_
    obtain ⟨r5, M6, q7, hF⟩ := kBd_el hF
    refine kcv_I (pc := 63) (As := [.ref (A lMo), .int a1, .int a2]) (st := []) (A := A) (T := T) (r := r5) (M1 := M6) i_131_63 m_7_208 rfl rfl rfl rfl (rd_Mo R) rfl (Nat.le_of_ble_eq_true rfl) (D_133 R q7) (fun h R => ?_)
    refine k_if_eq (pc := 66) (tgt := 78) i_131_66 (by decide) (fun c8 => ?_) (fun c8 => ?_)
    · rw [if_pos c8] at hF
      refine k_aload_n (pc := 78) i_131_78 rfl rfl ?_
      refine k_iload_n (pc := 79) i_131_79 rfl ?_
      obtain ⟨r9, M10, q11, hF⟩ := kBd_el hF
      refine kcv_V (pc := 80) (As := [.ref (A lMo), .int a2]) (st := []) (A := A) (T := T) (r := r9) (M1 := M10) i_131_80 m_7_203 rfl rfl rfl rfl (rd_Mo R) rfl (Nat.le_of_ble_eq_true rfl) (D_123 R q11) (fun h R => ?_)
      refine k_iconst (pc := 83) (v := 1) i_131_83 (by decide) ?_
      obtain rfl := Option.some.inj hF
      exact k_ireturn (pc := 84) i_131_84 rfl rfl (K _ R)
    · rw [if_neg c8] at hF
      refine k_aload_n (pc := 69) i_131_69 rfl rfl ?_
      refine k_iload_n (pc := 70) i_131_70 rfl ?_
      refine k_iload_n (pc := 71) i_131_71 rfl ?_
      obtain ⟨r12, M13, q14, hF⟩ := kBd_el hF
      refine kcv_V (pc := 72) (As := [.ref (A lMo), .int a1, .int a2]) (st := []) (A := A) (T := T) (r := r12) (M1 := M13) i_131_72 m_7_211 rfl rfl rfl rfl (rd_Mo R) rfl (Nat.le_of_ble_eq_true rfl) (D_130 R q14) (fun h R => ?_)
      refine k_goto (pc := 75) (tgt := 83) i_131_75 (by decide) ?_
      refine k_iconst (pc := 83) (v := 1) i_131_83 (by decide) ?_
      obtain rfl := Option.some.inj hF
      exact k_ireturn (pc := 84) i_131_84 rfl rfl (K _ R)
  rw [if_neg c4] at hF
  by_cases c15 : r1 = 2
  · rw [if_pos c15] at hF
    rw [c15]
    refine k_tswIn (pc := 5) (tgt := 85) i_131_5 (by decide) (by decide) rfl (by decide) ?_
    refine k_iconst (pc := 85) (v := 0) i_131_85 (by decide) ?_
    refine k_istore_n (pc := 86) (lo2 := [some (.ref (A lMo)), some (.int a1), some (.int a2), some (.int 0)]) i_131_86 (Nat.le_of_ble_eq_true rfl) rfl ?_
    exact W_131_87 (d := d) rfl R K hF
  rw [if_neg c15] at hF
  by_cases c16 : r1 = 3
  · rw [if_pos c16] at hF
    rw [c16]
    refine k_tswIn (pc := 5) (tgt := 140) i_131_5 (by decide) (by decide) rfl (by decide) ?_
    refine k_aload_n (pc := 140) i_131_140 rfl rfl ?_
    refine k_iload_n (pc := 141) i_131_141 rfl ?_
    refine k_iload_n (pc := 142) i_131_142 rfl ?_
    obtain ⟨r17, M18, q19, hF⟩ := kBd_el hF
    refine kcv_V (pc := 143) (As := [.ref (A lMo), .int a1, .int a2]) (st := []) (A := A) (T := T) (r := r17) (M1 := M18) i_131_143 m_7_214 rfl rfl rfl rfl (rd_Mo R) rfl (Nat.le_of_ble_eq_true rfl) (D_132 R q19) (fun h R => ?_)
    refine k_iconst (pc := 146) (v := 1) i_131_146 (by decide) ?_
    obtain rfl := Option.some.inj hF
    exact k_ireturn (pc := 147) i_131_147 rfl rfl (K _ R)
  rw [if_neg c16] at hF
  by_cases c20 : r1 = 4
  · rw [if_pos c20] at hF
    rw [c20]
    refine k_tswIn (pc := 5) (tgt := 140) i_131_5 (by decide) (by decide) rfl (by decide) ?_
    refine k_aload_n (pc := 140) i_131_140 rfl rfl ?_
    refine k_iload_n (pc := 141) i_131_141 rfl ?_
    refine k_iload_n (pc := 142) i_131_142 rfl ?_
    obtain ⟨r21, M22, q23, hF⟩ := kBd_el hF
    refine kcv_V (pc := 143) (As := [.ref (A lMo), .int a1, .int a2]) (st := []) (A := A) (T := T) (r := r21) (M1 := M22) i_131_143 m_7_214 rfl rfl rfl rfl (rd_Mo R) rfl (Nat.le_of_ble_eq_true rfl) (D_132 R q23) (fun h R => ?_)
    refine k_iconst (pc := 146) (v := 1) i_131_146 (by decide) ?_
    obtain rfl := Option.some.inj hF
    exact k_ireturn (pc := 147) i_131_147 rfl rfl (K _ R)
  rw [if_neg c20] at hF
  by_cases c24 : r1 = 5
  · rw [if_pos c24] at hF
    rw [c24]
    refine k_tswIn (pc := 5) (tgt := 204) i_131_5 (by decide) (by decide) rfl (by decide) ?_
    refine k_aload_n (pc := 204) i_131_204 rfl rfl ?_
    refine k_iload_n (pc := 205) i_131_205 rfl ?_
    refine k_iload_n (pc := 206) i_131_206 rfl ?_
    obtain ⟨r25, M26, q27, hF⟩ := kBd_el hF
    refine kcv_V (pc := 207) (As := [.ref (A lMo), .int a1, .int a2]) (st := []) (A := A) (T := T) (r := r25) (M1 := M26) i_131_207 m_7_211 rfl rfl rfl rfl (rd_Mo R) rfl (Nat.le_of_ble_eq_true rfl) (D_130 R q27) (fun h R => ?_)
    refine k_iconst (pc := 210) (v := 1) i_131_210 (by decide) ?_
    obtain rfl := Option.some.inj hF
    exact k_ireturn (pc := 211) i_131_211 rfl rfl (K _ R)
  rw [if_neg c24] at hF
  by_cases c28 : r1 = 6
  · rw [if_pos c28] at hF
    rw [c28]
    refine k_tswIn (pc := 5) (tgt := 166) i_131_5 (by decide) (by decide) rfl (by decide) ?_
    refine k_aload_n (pc := 166) i_131_166 rfl rfl ?_
    refine k_iload_n (pc := 167) i_131_167 rfl ?_
    refine k_iload_n (pc := 168) i_131_168 rfl ?_
    obtain ⟨r29, M30, q31, hF⟩ := kBd_el hF
    refine kcv_I (pc := 169) (As := [.ref (A lMo), .int a1, .int a2]) (st := []) (A := A) (T := T) (r := r29) (M1 := M30) i_131_169 m_7_217 rfl rfl rfl rfl (rd_Mo R) rfl (Nat.le_of_ble_eq_true rfl) (D_137 R q31) (fun h R => ?_)
    obtain ⟨g32, hF⟩ := kGd_el hF
    obtain rfl := Option.some.inj hF
    exact k_ireturn (pc := 172) i_131_172 rfl (kz_nar g32) (K _ R)
  rw [if_neg c28] at hF
  by_cases c33 : r1 = 7
  · rw [if_pos c33] at hF
    rw [c33]
    refine k_tswIn (pc := 5) (tgt := 173) i_131_5 (by decide) (by decide) rfl (by decide) ?_
    refine k_aload_n (pc := 173) i_131_173 rfl rfl ?_
    refine k_iload_n (pc := 174) i_131_174 rfl ?_
    refine k_iload_n (pc := 175) i_131_175 rfl ?_
    obtain ⟨r34, M35, q36, hF⟩ := kBd_el hF
    refine kcv_I (pc := 176) (As := [.ref (A lMo), .int a1, .int a2]) (st := []) (A := A) (T := T) (r := r34) (M1 := M35) i_131_176 m_7_220 rfl rfl rfl rfl (rd_Mo R) rfl (Nat.le_of_ble_eq_true rfl) (D_138 R q36) (fun h R => ?_)
    obtain ⟨g37, hF⟩ := kGd_el hF
    obtain rfl := Option.some.inj hF
    exact k_ireturn (pc := 179) i_131_179 rfl (kz_nar g37) (K _ R)
  rw [if_neg c33] at hF
  by_cases c38 : r1 = 8
  · rw [if_pos c38] at hF
    rw [c38]
    refine k_tswIn (pc := 5) (tgt := 148) i_131_5 (by decide) (by decide) rfl (by decide) ?_
    refine k_aload_n (pc := 148) i_131_148 rfl rfl ?_
    refine k_getf (pc := 149) i_131_149 f_7_57 (rd_Mo R) rfl ?_
    refine k_iload_n (pc := 152) i_131_152 rfl ?_
    refine k_dup2 (pc := 153) i_131_153 rfl rfl ?_
    obtain ⟨g39, hF⟩ := kGx_el hF
    refine k_iald (pc := 154) i_131_154 (rd_Ma_26 R) g39 ?_
    refine k_iconst (pc := 155) (v := 1) i_131_155 (by decide) ?_
    refine k_iadd (pc := 156) i_131_156 ?_
    obtain ⟨g40, hF⟩ := kGx_el hF
    refine k_iast (pc := 157) i_131_157 (rd_Ma_26 R) g40 (fun h e41 => ?_)
    replace R := kRl_sp (l := (lMa 26)) (k := a1.toNatClampNeg) (v := (gp M2 (lMa 26) a1.toNatClampNeg) + 1) R rfl e41
    clear e41
    refine k_aload_n (pc := 158) i_131_158 rfl rfl ?_
    refine k_iload_n (pc := 159) i_131_159 rfl ?_
    refine k_iload_n (pc := 160) i_131_160 rfl ?_
    obtain ⟨r42, M43, q44, hF⟩ := kBd_el hF
    refine kcv_V (pc := 161) (As := [.ref (A lMo), .int a1, .int a2]) (st := []) (A := A) (T := T) (r := r42) (M1 := M43) i_131_161 m_7_211 rfl rfl rfl rfl (rd_Mo R) rfl (Nat.le_of_ble_eq_true rfl) (D_130 R q44) (fun h R => ?_)
    refine k_iconst (pc := 164) (v := 1) i_131_164 (by decide) ?_
    obtain rfl := Option.some.inj hF
    exact k_ireturn (pc := 165) i_131_165 rfl rfl (K _ R)
  rw [if_neg c38] at hF
  by_cases c45 : r1 = 9
  · rw [if_pos c45] at hF
    rw [c45]
    refine k_tswIn (pc := 5) (tgt := 187) i_131_5 (by decide) (by decide) rfl (by decide) ?_
    refine k_aload_n (pc := 187) i_131_187 rfl rfl ?_
    refine k_getf (pc := 188) i_131_188 f_7_57 (rd_Mo R) rfl ?_
    refine k_iload_n (pc := 191) i_131_191 rfl ?_
    refine k_dup2 (pc := 192) i_131_192 rfl rfl ?_
    obtain ⟨g46, hF⟩ := kGx_el hF
    refine k_iald (pc := 193) i_131_193 (rd_Ma_26 R) g46 ?_
    refine k_iconst (pc := 194) (v := 1) i_131_194 (by decide) ?_
    refine k_iadd (pc := 195) i_131_195 ?_
    obtain ⟨g47, hF⟩ := kGx_el hF
    refine k_iast (pc := 196) i_131_196 (rd_Ma_26 R) g47 (fun h e48 => ?_)
    replace R := kRl_sp (l := (lMa 26)) (k := a1.toNatClampNeg) (v := (gp M2 (lMa 26) a1.toNatClampNeg) + 1) R rfl e48
    clear e48
    refine k_aload_n (pc := 197) i_131_197 rfl rfl ?_
    refine k_iload_n (pc := 198) i_131_198 rfl ?_
    obtain ⟨r49, M50, q51, hF⟩ := kBd_el hF
    refine kcv_V (pc := 199) (As := [.ref (A lMo), .int a2]) (st := []) (A := A) (T := T) (r := r49) (M1 := M50) i_131_199 m_7_203 rfl rfl rfl rfl (rd_Mo R) rfl (Nat.le_of_ble_eq_true rfl) (D_123 R q51) (fun h R => ?_)
    refine k_iconst (pc := 202) (v := 1) i_131_202 (by decide) ?_
    obtain rfl := Option.some.inj hF
    exact k_ireturn (pc := 203) i_131_203 rfl rfl (K _ R)
  rw [if_neg c45] at hF
  by_cases c52 : r1 = 10
  · rw [if_pos c52] at hF
    rw [c52]
    refine k_tswIn (pc := 5) (tgt := 180) i_131_5 (by decide) (by decide) rfl (by decide) ?_
    refine k_aload_n (pc := 180) i_131_180 rfl rfl ?_
    refine k_iload_n (pc := 181) i_131_181 rfl ?_
    refine k_iload_n (pc := 182) i_131_182 rfl ?_
    obtain ⟨r53, M54, q55, hF⟩ := kBd_el hF
    refine kcv_I (pc := 183) (As := [.ref (A lMo), .int a1, .int a2]) (st := []) (A := A) (T := T) (r := r53) (M1 := M54) i_131_183 m_7_223 rfl rfl rfl rfl (rd_Mo R) rfl (Nat.le_of_ble_eq_true rfl) (D_139 R q55) (fun h R => ?_)
    obtain ⟨g56, hF⟩ := kGd_el hF
    obtain rfl := Option.some.inj hF
    exact k_ireturn (pc := 186) i_131_186 rfl (kz_nar g56) (K _ R)
  rw [if_neg c52] at hF
  refine k_tswOut (pc := 5) (tgt := 204) i_131_5 (kSwOut1 (n := 10) (by decide) (fun k hk => match k, hk with | 0, _ => c4 | 1, _ => c15 | 2, _ => c16 | 3, _ => c20 | 4, _ => c24 | 5, _ => c28 | 6, _ => c33 | 7, _ => c38 | 8, _ => c45 | 9, _ => c52 | k + 10, hk => absurd hk (by omega))) (by decide) ?_
  refine k_aload_n (pc := 204) i_131_204 rfl rfl ?_
  refine k_iload_n (pc := 205) i_131_205 rfl ?_
  refine k_iload_n (pc := 206) i_131_206 rfl ?_
  obtain ⟨r58, M59, q60, hF⟩ := kBd_el hF
  refine kcv_V (pc := 207) (As := [.ref (A lMo), .int a1, .int a2]) (st := []) (A := A) (T := T) (r := r58) (M1 := M59) i_131_207 m_7_211 rfl rfl rfl rfl (rd_Mo R) rfl (Nat.le_of_ble_eq_true rfl) (D_130 R q60) (fun h R => ?_)
  refine k_iconst (pc := 210) (v := 1) i_131_210 (by decide) ?_
  obtain rfl := Option.some.inj hF
  exact k_ireturn (pc := 211) i_131_211 rfl rfl (K _ R)
-- 140: RDModel step
noncomputable def B_140_209 (T : kT) (a2 : Int32) (a3 : Int32) (M : kM) : Option ((Int32 × kM) ⊕ (Int32 × kM)) :=
  if (gp M lMo 31) ≤ a3 then (some (.inr ((a2, M)))) else (kGx a3 720 (kGx a3 12 (some (.inl ((a3 + 1), sp M (lMa 30) a3.toNatClampNeg (gp M (lMa 28) a3.toNatClampNeg))))))
noncomputable def F_140_209 (T : kT) (a2 : Int32) (a3 : Int32) (M : kM) : Option (Int32 × kM) :=
  kWh (fun w : (Int32 × kM) => B_140_209 T a2 w.1 w.2) (a3, M)
theorem F_140_209_eq (T : kT) (a2 : Int32) (a3 : Int32) (M : kM) : F_140_209 T a2 a3 M = kAg (B_140_209 T a2 a3 M) (fun w => F_140_209 T a2 w.1 w.2) := by
  unfold F_140_209
  rw [kWh_eq]
set_option maxHeartbeats 1000000 in
theorem W_140_209 {G : kG} {d : Nat} {A : kLb → Nat} {C : kCl} {P : kO → kH → Prop} {T : kT} {M : kM} {h : kH} {a2 : Int32} {a3 : Int32} {b1 : Option Value} {z : (Int32 × kM)} (hC : C = kRun G (d + 4)) (R : kRl A T M h) (K : (fun z : (Int32 × kM) => ∀ h1, kRl A T z.2 h1 → P (.inl (some (.int z.1))) h1) z) (hF : F_140_209 T a2 a3 M = some z) : kWP G 140 C P 209 [some (.ref (A lMo)), b1, some (.int a2), some (.int a3)] [] h 0 0 := by
  refine kWh_ind (P := (fun w : (Int32 × kM) => ∀ (h : kH) (b1 : Option Value), kRl A T w.2 h → kWP G 140 C P 209 [some (.ref (A lMo)), b1, some (.int a2), some (.int w.1)] [] h 0 0)) (Q := (fun z : (Int32 × kM) => ∀ h1, kRl A T z.2 h1 → P (.inl (some (.int z.1))) h1)) hF K ?_ h _ R
  clear hF K R
  intro w z hF K h b1 R
  obtain ⟨a3, M⟩ := w
  change B_140_209 T a2 a3 M = some z at hF
  change kWP G 140 C P 209 [some (.ref (A lMo)), b1, some (.int a2), some (.int a3)] [] h 0 0
  unfold B_140_209 at hF
  refine k_iload_n (pc := 209) i_140_209 rfl ?_
  refine k_aload_n (pc := 210) i_140_210 rfl rfl ?_
  refine k_getf (pc := 211) i_140_211 f_7_172 (rd_Mo R) rfl ?_
  refine k_icmp_ge (pc := 214) (tgt := 235) i_140_214 (by decide) (fun c17 => ?_) (fun c17 => ?_)
  · rw [if_pos c17] at hF
    refine k_iload_n (pc := 235) i_140_235 rfl ?_
    obtain rfl := Option.some.inj hF
    exact k_ireturn (pc := 236) i_140_236 rfl rfl (K _ R)
  · rw [if_neg c17] at hF
    refine k_aload_n (pc := 217) i_140_217 rfl rfl ?_
    refine k_getf (pc := 218) i_140_218 f_7_70 (rd_Mo R) rfl ?_
    refine k_iload_n (pc := 221) i_140_221 rfl ?_
    refine k_aload_n (pc := 222) i_140_222 rfl rfl ?_
    refine k_getf (pc := 223) i_140_223 f_7_64 (rd_Mo R) rfl ?_
    refine k_iload_n (pc := 226) i_140_226 rfl ?_
    obtain ⟨g18, hF⟩ := kGx_el hF
    refine k_iald (pc := 227) i_140_227 (rd_Ma_28 R) g18 ?_
    obtain ⟨g19, hF⟩ := kGx_el hF
    refine k_iast (pc := 228) i_140_228 (rd_Ma_30 R) g19 (fun h e20 => ?_)
    replace R := kRl_sp (l := (lMa 30)) (k := a3.toNatClampNeg) (v := gp M (lMa 28) a3.toNatClampNeg) R rfl e20
    clear e20
    refine k_iinc (pc := 229) (v := a3 + 1) (lo2 := [some (.ref (A lMo)), b1, some (.int a2), some (.int (a3 + 1))]) i_140_229 rfl rfl rfl ?_
    refine k_goto (pc := 232) (tgt := 209) i_140_232 (by decide) ?_
    obtain rfl := Option.some.inj hF
    exact K _ _ R
noncomputable def F_140_190 (T : kT) (a2 : Int32) (M : kM) : Option (Int32 × kM) :=
  if a2 = 1 then (kGx 0 60 (F_140_209 T a2 0 (sp M lMo 31 (gp M (lMa 21) (0 : Int32).toNatClampNeg)))) else (some (a2, M))
set_option maxHeartbeats 1000000 in
theorem W_140_190 {G : kG} {d : Nat} {A : kLb → Nat} {C : kCl} {P : kO → kH → Prop} {T : kT} {M : kM} {h : kH} {a2 : Int32} {b1 b3 : Option Value} {z : (Int32 × kM)} (hC : C = kRun G (d + 4)) (R : kRl A T M h) (K : (fun z : (Int32 × kM) => ∀ h1, kRl A T z.2 h1 → P (.inl (some (.int z.1))) h1) z) (hF : F_140_190 T a2 M = some z) : kWP G 140 C P 190 [some (.ref (A lMo)), b1, some (.int a2), b3] [] h 0 0 := by
  unfold F_140_190 at hF
  refine k_iload_n (pc := 190) i_140_190 rfl ?_
  refine k_iconst (pc := 191) (v := 1) i_140_191 (by decide) ?_
  refine k_icmp_eq (pc := 192) (tgt := 197) i_140_192 (by decide) (fun c14 => ?_) (fun c14 => ?_)
  · rw [if_pos c14] at hF
    refine k_aload_n (pc := 197) i_140_197 rfl rfl ?_
    refine k_aload_n (pc := 198) i_140_198 rfl rfl ?_
    refine k_getf (pc := 199) i_140_199 f_7_54 (rd_Mo R) rfl ?_
    refine k_iconst (pc := 202) (v := 0) i_140_202 (by decide) ?_
    obtain ⟨g15, hF⟩ := kGx_el hF
    refine k_iald (pc := 203) i_140_203 (rd_Ma_21 R) g15 ?_
    refine k_putf (pc := 204) i_140_204 f_7_172 (rd_Mo R) (by decide +kernel) (Nat.le_of_ble_eq_true rfl) rfl rfl rfl (fun h e16 => ?_)
    replace R := kRl_sp (l := lMo) (k := 31) (v := gp M (lMa 21) (0 : Int32).toNatClampNeg) R rfl e16
    clear e16
    refine k_iconst (pc := 207) (v := 0) i_140_207 (by decide) ?_
    refine k_istore_n (pc := 208) (lo2 := [some (.ref (A lMo)), b1, some (.int a2), some (.int 0)]) i_140_208 (Nat.le_of_ble_eq_true rfl) rfl ?_
    exact W_140_209 (d := d) hC R K hF
  · rw [if_neg c14] at hF
    refine k_iload_n (pc := 195) i_140_195 rfl ?_
    obtain rfl := Option.some.inj hF
    exact k_ireturn (pc := 196) i_140_196 rfl rfl (K _ R)
noncomputable def F_140_185 (T : kT) (a2 : Int32) (M : kM) : Option (Int32 × kM) :=
  F_140_190 T a2 (sp M lMo 15 0)
set_option maxHeartbeats 1000000 in
theorem W_140_185 {G : kG} {d : Nat} {A : kLb → Nat} {C : kCl} {P : kO → kH → Prop} {T : kT} {M : kM} {h : kH} {a2 : Int32} {b1 b3 : Option Value} {z : (Int32 × kM)} (hC : C = kRun G (d + 4)) (R : kRl A T M h) (K : (fun z : (Int32 × kM) => ∀ h1, kRl A T z.2 h1 → P (.inl (some (.int z.1))) h1) z) (hF : F_140_185 T a2 M = some z) : kWP G 140 C P 185 [some (.ref (A lMo)), b1, some (.int a2), b3] [] h 0 0 := by
  unfold F_140_185 at hF
  refine k_aload_n (pc := 185) i_140_185 rfl rfl ?_
  refine k_iconst (pc := 186) (v := 0) i_140_186 (by decide) ?_
  refine k_putf (pc := 187) i_140_187 f_7_106 (rd_Mo R) (by decide +kernel) (Nat.le_of_ble_eq_true rfl) rfl rfl rfl (fun h e13 => ?_)
  replace R := kRl_sp (l := lMo) (k := 15) (v := 0) R rfl e13
  clear e13
  exact W_140_190 (d := d) hC R K hF
noncomputable def B_140_59 (T : kT) (a1 : Int32) (a2 : Int32) (M : kM) : Option ((Int32 × kM) ⊕ (Int32 × kM)) :=
  if 0 ≤ a2 then (if a2 = 0 then (kLf (F_140_185 T a2 (sp M lMo 24 (((gp M lMo 24) + a1) - (gp M lMo 25))))) else (if a2 = 3 then (kLf (F_140_185 T a2 (sp M lMo 24 (((gp M lMo 24) + a1) - (gp M lMo 25))))) else (kLf (F_140_190 T a2 (sp M lMo 24 (((gp M lMo 24) + a1) - (gp M lMo 25))))))) else (if (gp M lMo 36) = 0 then (if (gp M lMo 35) = 0 then (if (gp M lMo 37) = 0 then (some (.inl (0, M))) else (some (.inl (1, M)))) else (if (gp M lMo 37) = 0 then (kGx (gp M lMo 35) 60 (kBd (F_129 T (gp M (lMa 18) (gp M lMo 35).toNatClampNeg) (gp M lMo 35) M) (fun r23 M24 => some (.inl (a2, M24))))) else (kGx (gp M lMo 35) 60 (kBd (F_131 T (gp M (lMa 18) (gp M lMo 35).toNatClampNeg) (gp M lMo 35) M) (fun r18 M19 => if r18 = 0 then (some (.inl (3, M19))) else (some (.inl (a2, M19)))))))) else (kBd (F_128 T (gp M lMo 35) M) (fun r27 M28 => if r27 = 0 then (some (.inl (2, M28))) else (some (.inl (a2, M28))))))
noncomputable def F_140_59 (T : kT) (a1 : Int32) (a2 : Int32) (M : kM) : Option (Int32 × kM) :=
  kWh (fun w : (Int32 × kM) => B_140_59 T a1 w.1 w.2) (a2, M)
theorem F_140_59_eq (T : kT) (a1 : Int32) (a2 : Int32) (M : kM) : F_140_59 T a1 a2 M = kAg (B_140_59 T a1 a2 M) (fun w => F_140_59 T a1 w.1 w.2) := by
  unfold F_140_59
  rw [kWh_eq]
set_option maxHeartbeats 1000000 in
theorem W_140_59 {G : kG} {d : Nat} {A : kLb → Nat} {C : kCl} {P : kO → kH → Prop} {T : kT} {M : kM} {h : kH} {a1 : Int32} {a2 : Int32} {b3 : Option Value} {z : (Int32 × kM)} (hC : C = kRun G (d + 4)) (R : kRl A T M h) (K : (fun z : (Int32 × kM) => ∀ h1, kRl A T z.2 h1 → P (.inl (some (.int z.1))) h1) z) (hF : F_140_59 T a1 a2 M = some z) : kWP G 140 C P 59 [some (.ref (A lMo)), some (.int a1), some (.int a2), b3] [] h 0 0 := by
  refine kWh_ind (P := (fun w : (Int32 × kM) => ∀ (h : kH) (b3 : Option Value), kRl A T w.2 h → kWP G 140 C P 59 [some (.ref (A lMo)), some (.int a1), some (.int w.1), b3] [] h 0 0)) (Q := (fun z : (Int32 × kM) => ∀ h1, kRl A T z.2 h1 → P (.inl (some (.int z.1))) h1)) hF K ?_ h _ R
  clear hF K R
  intro w z hF K h b3 R
  obtain ⟨a2, M⟩ := w
  change B_140_59 T a1 a2 M = some z at hF
  change kWP G 140 C P 59 [some (.ref (A lMo)), some (.int a1), some (.int a2), b3] [] h 0 0
  unfold B_140_59 at hF
  refine k_iload_n (pc := 59) i_140_59 rfl ?_
  refine k_if_ge (pc := 60) (tgt := 161) i_140_60 (by decide) (fun c10 => ?_) (fun c10 => ?_)
  · rw [if_pos c10] at hF
    refine k_aload_n (pc := 161) i_140_161 rfl rfl ?_
    refine k_aload_n (pc := 162) i_140_162 rfl rfl ?_
    refine k_getf (pc := 163) i_140_163 f_7_169 (rd_Mo R) rfl ?_
    refine k_iload_n (pc := 166) i_140_166 rfl ?_
    refine k_iadd (pc := 167) i_140_167 ?_
    refine k_aload_n (pc := 168) i_140_168 rfl rfl ?_
    refine k_getf (pc := 169) i_140_169 f_7_194 (rd_Mo R) rfl ?_
    refine k_isub (pc := 172) i_140_172 ?_
    refine k_putf (pc := 173) i_140_173 f_7_169 (rd_Mo R) (by decide +kernel) (Nat.le_of_ble_eq_true rfl) rfl rfl rfl (fun h e11 => ?_)
    replace R := kRl_sp (l := lMo) (k := 24) (v := ((gp M lMo 24) + a1) - (gp M lMo 25)) R rfl e11
    clear e11
    refine k_iload_n (pc := 176) i_140_176 rfl ?_
    refine k_if_eq (pc := 177) (tgt := 185) i_140_177 (by decide) (fun c12 => ?_) (fun c12 => ?_)
    · rw [if_pos c12] at hF
      obtain ⟨z, hG, rfl⟩ := kLf_el hF
      replace hF := hG
      clear hG
      exact W_140_185 (d := d) hC R K hF
    · rw [if_neg c12] at hF
      refine k_iload_n (pc := 180) i_140_180 rfl ?_
      refine k_iconst (pc := 181) (v := 3) i_140_181 (by decide) ?_
      refine k_icmp_ne (pc := 182) (tgt := 190) i_140_182 (by decide) (fun c13 => ?_) (fun c13 => ?_)
      · rw [if_neg c13] at hF
        obtain ⟨z, hG, rfl⟩ := kLf_el hF
        replace hF := hG
        clear hG
        exact W_140_190 (d := d) hC R K hF
      · rw [if_pos c13] at hF
        obtain ⟨z, hG, rfl⟩ := kLf_el hF
        replace hF := hG
        clear hG
        exact W_140_185 (d := d) hC R K hF
  · rw [if_neg c10] at hF
    refine k_aload_n (pc := 63) i_140_63 rfl rfl ?_
    refine k_getf (pc := 64) i_140_64 f_7_181 (rd_Mo R) rfl ?_
    refine k_if_eq (pc := 67) (tgt := 86) i_140_67 (by decide) (fun c14 => ?_) (fun c14 => ?_)
    · rw [if_pos c14] at hF
      refine k_aload_n (pc := 86) i_140_86 rfl rfl ?_
      refine k_getf (pc := 87) i_140_87 f_7_178 (rd_Mo R) rfl ?_
      refine k_if_ne (pc := 90) (tgt := 109) i_140_90 (by decide) (fun c15 => ?_) (fun c15 => ?_)
      · rw [if_neg c15] at hF
        refine k_aload_n (pc := 109) i_140_109 rfl rfl ?_
        refine k_getf (pc := 110) i_140_110 f_7_187 (rd_Mo R) rfl ?_
        refine k_if_ne (pc := 113) (tgt := 136) i_140_113 (by decide) (fun c16 => ?_) (fun c16 => ?_)
        · rw [if_neg c16] at hF
          refine k_aload_n (pc := 136) i_140_136 rfl rfl ?_
          refine k_aload_n (pc := 137) i_140_137 rfl rfl ?_
          refine k_getf (pc := 138) i_140_138 f_7_45 (rd_Mo R) rfl ?_
          refine k_aload_n (pc := 141) i_140_141 rfl rfl ?_
          refine k_getf (pc := 142) i_140_142 f_7_178 (rd_Mo R) rfl ?_
          obtain ⟨g17, hF⟩ := kGx_el hF
          refine k_iald (pc := 145) i_140_145 (rd_Ma_18 R) g17 ?_
          refine k_aload_n (pc := 146) i_140_146 rfl rfl ?_
          refine k_getf (pc := 147) i_140_147 f_7_178 (rd_Mo R) rfl ?_
          obtain ⟨r18, M19, q20, hF⟩ := kBd_el hF
          refine kcv_I (pc := 150) (As := [.ref (A lMo), .int (gp M (lMa 18) (gp M lMo 35).toNatClampNeg), .int (gp M lMo 35)]) (st := []) (A := A) (T := T) (r := r18) (M1 := M19) i_140_150 m_7_242 rfl rfl rfl rfl (rd_Mo R) rfl (Nat.le_of_ble_eq_true rfl) (hC ▸ D_131 R q20) (fun h R => ?_)
          refine k_if_ne (pc := 153) (tgt := 59) i_140_153 (by decide) (fun c21 => ?_) (fun c21 => ?_)
          · rw [if_neg c21] at hF
            obtain rfl := Option.some.inj hF
            exact K _ _ R
          · rw [if_pos c21] at hF
            refine k_iconst (pc := 156) (v := 3) i_140_156 (by decide) ?_
            refine k_istore_n (pc := 157) (lo2 := [some (.ref (A lMo)), some (.int a1), some (.int 3), b3]) i_140_157 (Nat.le_of_ble_eq_true rfl) rfl ?_
            refine k_goto (pc := 158) (tgt := 59) i_140_158 (by decide) ?_
            obtain rfl := Option.some.inj hF
            exact K _ _ R
        · rw [if_pos c16] at hF
          refine k_aload_n (pc := 116) i_140_116 rfl rfl ?_
          refine k_aload_n (pc := 117) i_140_117 rfl rfl ?_
          refine k_getf (pc := 118) i_140_118 f_7_45 (rd_Mo R) rfl ?_
          refine k_aload_n (pc := 121) i_140_121 rfl rfl ?_
          refine k_getf (pc := 122) i_140_122 f_7_178 (rd_Mo R) rfl ?_
          obtain ⟨g22, hF⟩ := kGx_el hF
          refine k_iald (pc := 125) i_140_125 (rd_Ma_18 R) g22 ?_
          refine k_aload_n (pc := 126) i_140_126 rfl rfl ?_
          refine k_getf (pc := 127) i_140_127 f_7_178 (rd_Mo R) rfl ?_
          obtain ⟨r23, M24, q25, hF⟩ := kBd_el hF
          refine kcv_V (pc := 130) (As := [.ref (A lMo), .int (gp M (lMa 18) (gp M lMo 35).toNatClampNeg), .int (gp M lMo 35)]) (st := []) (A := A) (T := T) (r := r23) (M1 := M24) i_140_130 m_7_239 rfl rfl rfl rfl (rd_Mo R) rfl (Nat.le_of_ble_eq_true rfl) (hC ▸ D_129 R q25) (fun h R => ?_)
          refine k_goto (pc := 133) (tgt := 59) i_140_133 (by decide) ?_
          obtain rfl := Option.some.inj hF
          exact K _ _ R
      · rw [if_pos c15] at hF
        refine k_aload_n (pc := 93) i_140_93 rfl rfl ?_
        refine k_getf (pc := 94) i_140_94 f_7_187 (rd_Mo R) rfl ?_
        refine k_if_eq (pc := 97) (tgt := 104) i_140_97 (by decide) (fun c26 => ?_) (fun c26 => ?_)
        · rw [if_pos c26] at hF
          refine k_iconst (pc := 104) (v := 0) i_140_104 (by decide) ?_
          refine k_istore_n (pc := 105) (lo2 := [some (.ref (A lMo)), some (.int a1), some (.int 0), b3]) i_140_105 (Nat.le_of_ble_eq_true rfl) rfl ?_
          refine k_goto (pc := 106) (tgt := 59) i_140_106 (by decide) ?_
          obtain rfl := Option.some.inj hF
          exact K _ _ R
        · rw [if_neg c26] at hF
          refine k_iconst (pc := 100) (v := 1) i_140_100 (by decide) ?_
          refine k_goto (pc := 101) (tgt := 105) i_140_101 (by decide) ?_
          refine k_istore_n (pc := 105) (lo2 := [some (.ref (A lMo)), some (.int a1), some (.int 1), b3]) i_140_105 (Nat.le_of_ble_eq_true rfl) rfl ?_
          refine k_goto (pc := 106) (tgt := 59) i_140_106 (by decide) ?_
          obtain rfl := Option.some.inj hF
          exact K _ _ R
    · rw [if_neg c14] at hF
      refine k_aload_n (pc := 70) i_140_70 rfl rfl ?_
      refine k_aload_n (pc := 71) i_140_71 rfl rfl ?_
      refine k_getf (pc := 72) i_140_72 f_7_178 (rd_Mo R) rfl ?_
      obtain ⟨r27, M28, q29, hF⟩ := kBd_el hF
      refine kcv_I (pc := 75) (As := [.ref (A lMo), .int (gp M lMo 35)]) (st := []) (A := A) (T := T) (r := r27) (M1 := M28) i_140_75 m_7_236 rfl rfl rfl rfl (rd_Mo R) rfl (Nat.le_of_ble_eq_true rfl) (hC ▸ D_128 R q29) (fun h R => ?_)
      refine k_if_ne (pc := 78) (tgt := 59) i_140_78 (by decide) (fun c30 => ?_) (fun c30 => ?_)
      · rw [if_neg c30] at hF
        obtain rfl := Option.some.inj hF
        exact K _ _ R
      · rw [if_pos c30] at hF
        refine k_iconst (pc := 81) (v := 2) i_140_81 (by decide) ?_
        refine k_istore_n (pc := 82) (lo2 := [some (.ref (A lMo)), some (.int a1), some (.int 2), b3]) i_140_82 (Nat.le_of_ble_eq_true rfl) rfl ?_
        refine k_goto (pc := 83) (tgt := 59) i_140_83 (by decide) ?_
        obtain rfl := Option.some.inj hF
        exact K _ _ R
noncomputable def F_140_28 (T : kT) (a1 : Int32) (s0 : Int32) (M : kM) : Option (Int32 × kM) :=
  if (gp (sp M lMo 0 s0) lMo 0) ≤ 0 then (if (gp (sp (sp M lMo 0 s0) lMo 25 a1) lMo 36) = 0 then (kBd (F_123 T 0 (sp (sp M lMo 0 s0) lMo 25 a1)) (fun r10 M11 => F_140_59 T a1 (-1) M11)) else (F_140_59 T a1 (-1) (sp (sp M lMo 0 s0) lMo 25 a1))) else (some (0, sp M lMo 0 s0))
set_option maxHeartbeats 1000000 in
theorem W_140_28 {G : kG} {d : Nat} {A : kLb → Nat} {C : kCl} {P : kO → kH → Prop} {T : kT} {M : kM} {h : kH} {a1 : Int32} {s0 : Int32} {b2 b3 : Option Value} {z : (Int32 × kM)} (hC : C = kRun G (d + 4)) (R : kRl A T M h) (K : (fun z : (Int32 × kM) => ∀ h1, kRl A T z.2 h1 → P (.inl (some (.int z.1))) h1) z) (hF : F_140_28 T a1 s0 M = some z) : kWP G 140 C P 28 [some (.ref (A lMo)), some (.int a1), b2, b3] [.int s0, .ref (A lMo)] h 0 0 := by
  unfold F_140_28 at hF
  refine k_putf (pc := 28) i_140_28 f_7_88 (rd_Mo R) (by decide +kernel) (Nat.le_of_ble_eq_true rfl) rfl rfl rfl (fun h e6 => ?_)
  replace R := kRl_sp (l := lMo) (k := 0) (v := s0) R rfl e6
  clear e6
  refine k_aload_n (pc := 31) i_140_31 rfl rfl ?_
  refine k_getf (pc := 32) i_140_32 f_7_88 (rd_Mo R) rfl ?_
  refine k_if_le (pc := 35) (tgt := 40) i_140_35 (by decide) (fun c7 => ?_) (fun c7 => ?_)
  · rw [if_pos c7] at hF
    refine k_aload_n (pc := 40) i_140_40 rfl rfl ?_
    refine k_iload_n (pc := 41) i_140_41 rfl ?_
    refine k_putf (pc := 42) i_140_42 f_7_194 (rd_Mo R) (by decide +kernel) (Nat.le_of_ble_eq_true rfl) rfl rfl rfl (fun h e8 => ?_)
    replace R := kRl_sp (l := lMo) (k := 25) (v := a1) R rfl e8
    clear e8
    refine k_aload_n (pc := 45) i_140_45 rfl rfl ?_
    refine k_getf (pc := 46) i_140_46 f_7_181 (rd_Mo R) rfl ?_
    refine k_if_ne (pc := 49) (tgt := 57) i_140_49 (by decide) (fun c9 => ?_) (fun c9 => ?_)
    · rw [if_neg c9] at hF
      refine k_iconst (pc := 57) (v := (-1)) i_140_57 (by decide) ?_
      refine k_istore_n (pc := 58) (lo2 := [some (.ref (A lMo)), some (.int a1), some (.int (-1)), b3]) i_140_58 (Nat.le_of_ble_eq_true rfl) rfl ?_
      exact W_140_59 (d := d) hC R K hF
    · rw [if_pos c9] at hF
      refine k_aload_n (pc := 52) i_140_52 rfl rfl ?_
      refine k_iconst (pc := 53) (v := 0) i_140_53 (by decide) ?_
      obtain ⟨r10, M11, q12, hF⟩ := kBd_el hF
      refine kcv_V (pc := 54) (As := [.ref (A lMo), .int 0]) (st := []) (A := A) (T := T) (r := r10) (M1 := M11) i_140_54 m_7_203 rfl rfl rfl rfl (rd_Mo R) rfl (Nat.le_of_ble_eq_true rfl) (hC ▸ D_123 R q12) (fun h R => ?_)
      refine k_iconst (pc := 57) (v := (-1)) i_140_57 (by decide) ?_
      refine k_istore_n (pc := 58) (lo2 := [some (.ref (A lMo)), some (.int a1), some (.int (-1)), b3]) i_140_58 (Nat.le_of_ble_eq_true rfl) rfl ?_
      exact W_140_59 (d := d) hC R K hF
  · rw [if_neg c7] at hF
    refine k_iconst (pc := 38) (v := 0) i_140_38 (by decide) ?_
    obtain rfl := Option.some.inj hF
    exact k_ireturn (pc := 39) i_140_39 rfl rfl (K _ R)
noncomputable def F_140 (T : kT) (a1 : Int32) (M : kM) : Option (Int32 × kM) :=
  kBd (F_95 T a1 1 500 M) (fun r1 M2 => if r1 = 0 then (F_140_28 T a1 1 M2) else (if (gp M2 lMo 15) = 0 then (F_140_28 T a1 2 M2) else (F_140_28 T a1 0 M2)))
set_option maxHeartbeats 1000000 in
theorem D_140 {G : kG} {d : Nat} {A : kLb → Nat} {T : kT} {M : kM} {h : kH} {a1 : Int32} {z : (Int32 × kM)} (R : kRl A T M h) (hF : F_140 T a1 M = some z) : kRun G (d + 5) 140 [.ref (A lMo), .int a1] h 0 0 (kPI A T z) := by
  refine ⟨⟨rfl, Nat.le_of_ble_eq_true rfl⟩, ?_⟩
  show kWP _ _ (kRun G (d + 4)) _ 0 [some (.ref (A lMo)), some (.int a1), none, none] [] _ _ _
  have K : (fun z : (Int32 × kM) => ∀ h1, kRl A T z.2 h1 → kPI A T z (.inl (some (.int z.1))) h1) z := fun _ q => ⟨rfl, q⟩
  unfold F_140 at hF
  refine k_aload_n (pc := 0) i_140_0 rfl rfl ?_
  refine k_iload_n (pc := 1) i_140_1 rfl ?_
  refine k_iconst (pc := 2) (v := 1) i_140_2 (by decide) ?_
  refine k_sipush (pc := 3) (v := 500) i_140_3 (by decide) ?_
  obtain ⟨r1, M2, q3, hF⟩ := kBd_el hF
  refine kcs_I (pc := 6) (As := [.int a1, .int 1, .int 500]) (st := [.ref (A lMo)]) (A := A) (T := T) (r := r1) (M1 := M2) i_140_6 m_7_94 rfl rfl rfl (Nat.le_of_ble_eq_true rfl) (D_95 R q3) (fun h R => ?_)
  refine k_if_ne (pc := 9) (tgt := 16) i_140_9 (by decide) (fun c4 => ?_) (fun c4 => ?_)
  · rw [if_neg c4] at hF
    refine k_aload_n (pc := 16) i_140_16 rfl rfl ?_
    refine k_getf (pc := 17) i_140_17 f_7_106 (rd_Mo R) rfl ?_
    refine k_if_eq (pc := 20) (tgt := 27) i_140_20 (by decide) (fun c5 => ?_) (fun c5 => ?_)
    · rw [if_pos c5] at hF
      refine k_iconst (pc := 27) (v := 2) i_140_27 (by decide) ?_
      exact W_140_28 (d := d) rfl R K hF
    · rw [if_neg c5] at hF
      refine k_iconst (pc := 23) (v := 0) i_140_23 (by decide) ?_
      refine k_goto (pc := 24) (tgt := 28) i_140_24 (by decide) ?_
      exact W_140_28 (d := d) rfl R K hF
  · rw [if_pos c4] at hF
    refine k_iconst (pc := 12) (v := 1) i_140_12 (by decide) ?_
    refine k_goto (pc := 13) (tgt := 28) i_140_13 (by decide) ?_
    exact W_140_28 (d := d) rfl R K hF
-- 141: RDModel column
noncomputable def F_141 (T : kT) (a1 : Int32) (M : kM) : Option (Int32 × kM) :=
  kBd (F_95 T a1 0 ((gp (sp M lMo 0 0) lMo 31) - 1) (sp M lMo 0 0)) (fun r2 M3 => if r2 = 0 then (some (0, M3)) else (kGx a1 12 (some (gp M3 (lMa 30) a1.toNatClampNeg, M3))))
set_option maxHeartbeats 1000000 in
theorem D_141 {G : kG} {d : Nat} {A : kLb → Nat} {T : kT} {M : kM} {h : kH} {a1 : Int32} {z : (Int32 × kM)} (R : kRl A T M h) (hF : F_141 T a1 M = some z) : kRun G (d + 2) 141 [.ref (A lMo), .int a1] h 0 0 (kPI A T z) := by
  refine ⟨⟨rfl, Nat.le_of_ble_eq_true rfl⟩, ?_⟩
  show kWP _ _ (kRun G (d + 1)) _ 0 [some (.ref (A lMo)), some (.int a1)] [] _ _ _
  have K : (fun z : (Int32 × kM) => ∀ h1, kRl A T z.2 h1 → kPI A T z (.inl (some (.int z.1))) h1) z := fun _ q => ⟨rfl, q⟩
  unfold F_141 at hF
  refine k_aload_n (pc := 0) i_141_0 rfl rfl ?_
  refine k_iconst (pc := 1) (v := 0) i_141_1 (by decide) ?_
  refine k_putf (pc := 2) i_141_2 f_7_88 (rd_Mo R) (by decide +kernel) (Nat.le_of_ble_eq_true rfl) rfl rfl rfl (fun h e1 => ?_)
  replace R := kRl_sp (l := lMo) (k := 0) (v := 0) R rfl e1
  clear e1
  refine k_iload_n (pc := 5) i_141_5 rfl ?_
  refine k_iconst (pc := 6) (v := 0) i_141_6 (by decide) ?_
  refine k_aload_n (pc := 7) i_141_7 rfl rfl ?_
  refine k_getf (pc := 8) i_141_8 f_7_172 (rd_Mo R) rfl ?_
  refine k_iconst (pc := 11) (v := 1) i_141_11 (by decide) ?_
  refine k_isub (pc := 12) i_141_12 ?_
  obtain ⟨r2, M3, q4, hF⟩ := kBd_el hF
  refine kcs_I (pc := 13) (As := [.int a1, .int 0, .int ((gp (sp M lMo 0 0) lMo 31) - 1)]) (st := []) (A := A) (T := T) (r := r2) (M1 := M3) i_141_13 m_7_94 rfl rfl rfl (Nat.le_of_ble_eq_true rfl) (D_95 R q4) (fun h R => ?_)
  refine k_if_eq (pc := 16) (tgt := 28) i_141_16 (by decide) (fun c5 => ?_) (fun c5 => ?_)
  · rw [if_pos c5] at hF
    refine k_iconst (pc := 28) (v := 0) i_141_28 (by decide) ?_
    obtain rfl := Option.some.inj hF
    exact k_ireturn (pc := 29) i_141_29 rfl rfl (K _ R)
  · rw [if_neg c5] at hF
    refine k_aload_n (pc := 19) i_141_19 rfl rfl ?_
    refine k_getf (pc := 20) i_141_20 f_7_70 (rd_Mo R) rfl ?_
    refine k_iload_n (pc := 23) i_141_23 rfl ?_
    obtain ⟨g6, hF⟩ := kGx_el hF
    refine k_iald (pc := 24) i_141_24 (rd_Ma_30 R) g6 ?_
    refine k_goto (pc := 25) (tgt := 29) i_141_25 (by decide) ?_
    obtain rfl := Option.some.inj hF
    exact k_ireturn (pc := 29) i_141_29 rfl rfl (K _ R)
-- 142: RDModel cost
noncomputable def F_142 (T : kT) (M : kM) : Option (Int32 × kM) :=
  some (gp (sp M lMo 0 0) lMo 24, sp M lMo 0 0)
set_option maxHeartbeats 1000000 in
theorem D_142 {G : kG} {d : Nat} {A : kLb → Nat} {T : kT} {M : kM} {h : kH} {z : (Int32 × kM)} (R : kRl A T M h) (hF : F_142 T  M = some z) : kRun G (d + 1) 142 [.ref (A lMo)] h 0 0 (kPI A T z) := by
  refine ⟨⟨rfl, Nat.le_of_ble_eq_true rfl⟩, ?_⟩
  show kWP _ _ (kRun G (d + 0)) _ 0 [some (.ref (A lMo))] [] _ _ _
  have K : (fun z : (Int32 × kM) => ∀ h1, kRl A T z.2 h1 → kPI A T z (.inl (some (.int z.1))) h1) z := fun _ q => ⟨rfl, q⟩
  unfold F_142 at hF
  refine k_aload_n (pc := 0) i_142_0 rfl rfl ?_
  refine k_iconst (pc := 1) (v := 0) i_142_1 (by decide) ?_
  refine k_putf (pc := 2) i_142_2 f_7_88 (rd_Mo R) (by decide +kernel) (Nat.le_of_ble_eq_true rfl) rfl rfl rfl (fun h e1 => ?_)
  replace R := kRl_sp (l := lMo) (k := 0) (v := 0) R rfl e1
  clear e1
  refine k_aload_n (pc := 5) i_142_5 rfl rfl ?_
  refine k_getf (pc := 6) i_142_6 f_7_169 (rd_Mo R) rfl ?_
  obtain rfl := Option.some.inj hF
  exact k_ireturn (pc := 9) i_142_9 rfl rfl (K _ R)
