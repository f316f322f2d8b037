-- 156: law
noncomputable def F_156_169 (G : kG) (a4 : Int32) (T : kT) (M : kM) (mc ms : Nat) : Option ((Int32 × kT × kM × Nat × Nat) ⊕ (Int32 × kM)) :=
  some (.inl ((a4 + 5), T, M, mc, ms))
set_option maxHeartbeats 1000000 in
theorem W_156_169 {G : kG} {d : Nat} {A : kLb → Nat} {C : kCl} {P : kO → kH → Prop} {T : kT} {M : kM} {mc ms : Nat} {h : kH} {a4 : Int32} {b5 b6 : Option Value} {z : ((Int32 × kT × kM × Nat × Nat) ⊕ (Int32 × kM))} (hC : C = kRun G (d + 56)) (R : kRl A T M h) (K : (Sum.elim (fun w : (Int32 × kT × kM × Nat × Nat) => ∀ (A : kLb → Nat) (h : kH) (b5 b6 : Option Value), kRl A w.2.1 w.2.2.1 h → kWP G 156 C P 23 [some (.ref G.1), some (.ref (A lD)), some (.ref (A lMo)), some (.ref (A lOu)), some (.int w.1), b5, b6] [] h w.2.2.2.1 w.2.2.2.2) (fun z : (Int32 × kM) => ∀ h1, P (.inl (some (.int z.1))) h1)) z) (hF : F_156_169 G a4 T M mc ms = some z) : kWP G 156 C P 169 [some (.ref G.1), some (.ref (A lD)), some (.ref (A lMo)), some (.ref (A lOu)), some (.int a4), b5, b6] [] h mc ms := by
  unfold F_156_169 at hF
  refine k_goto (pc := 169) (tgt := 895) i_156_169 (by decide) ?_
  refine k_iinc (pc := 895) (v := a4 + 5) (lo2 := [some (.ref G.1), some (.ref (A lD)), some (.ref (A lMo)), some (.ref (A lOu)), some (.int (a4 + 5)), b5, b6]) i_156_895 rfl rfl rfl ?_
  refine k_goto (pc := 898) (tgt := 23) i_156_898 (by decide) ?_
  obtain rfl := Option.some.inj hF
  exact K _ _ _ _ R
noncomputable def F_156_116 (G : kG) (a4 : Int32) (T : kT) (M : kM) (mc ms : Nat) : Option ((Int32 × kT × kM × Nat × Nat) ⊕ (Int32 × kM)) :=
  kGx (a4 + 1) G.2.1 (kBt (F_143 T (G.2.2 (a4 + 1).toNatClampNeg) M) (fun r5 T9 M6 => kGd (decide (kCc T T9 + 1 ≤ mc) && decide (kCs T T9 + 6 ≤ ms)) (kGx (a4 + 1) G.2.1 (kBd (F_100 T9 (G.2.2 (a4 + 1).toNatClampNeg) M6) (fun r11 M12 => kBd (F_94 T9  M12) (fun r14 M15 => if r14 = r5 then (if r5 = 0 then (kGx 0 1 (if (lg_cmp (go M15 (0 : Int32).toNatClampNeg) r11.toInt64) = 0 then (F_156_169 G a4 T9 M15 (mc - (kCc T T9 + 1)) (ms - (kCs T T9 + 6))) else (some (.inr ((0, M15)))))) else (F_156_169 G a4 T9 M15 (mc - (kCc T T9 + 1)) (ms - (kCs T T9 + 6)))) else (some (.inr ((0, M15))))))))))
set_option maxHeartbeats 1000000 in
theorem W_156_116 {G : kG} {d : Nat} {A : kLb → Nat} {C : kCl} {P : kO → kH → Prop} {T : kT} {M : kM} {mc ms : Nat} {h : kH} {a4 : Int32} {b5 b6 : Option Value} {z : ((Int32 × kT × kM × Nat × Nat) ⊕ (Int32 × kM))} (hC : C = kRun G (d + 56)) (R : kRl A T M h) (K : (Sum.elim (fun w : (Int32 × kT × kM × Nat × Nat) => ∀ (A : kLb → Nat) (h : kH) (b5 b6 : Option Value), kRl A w.2.1 w.2.2.1 h → kWP G 156 C P 23 [some (.ref G.1), some (.ref (A lD)), some (.ref (A lMo)), some (.ref (A lOu)), some (.int w.1), b5, b6] [] h w.2.2.2.1 w.2.2.2.2) (fun z : (Int32 × kM) => ∀ h1, P (.inl (some (.int z.1))) h1)) z) (hF : F_156_116 G a4 T M mc ms = some z) : kWP G 156 C P 116 [some (.ref G.1), some (.ref (A lD)), some (.ref (A lMo)), some (.ref (A lOu)), some (.int a4), b5, b6] [] h mc ms := by
  unfold F_156_116 at hF
  refine k_aload_n (pc := 116) i_156_116 rfl rfl ?_
  refine k_aload_n (pc := 117) i_156_117 rfl rfl ?_
  refine k_iload (pc := 118) i_156_118 rfl ?_
  refine k_iconst (pc := 120) (v := 1) i_156_120 (by decide) ?_
  refine k_iadd (pc := 121) i_156_121 ?_
  obtain ⟨g4, hF⟩ := kGx_el hF
  refine k_sald (pc := 122) i_156_122 g4 ?_
  refine k_aload_n (pc := 123) i_156_123 rfl rfl ?_
  obtain ⟨r5, T9, M6, q7, hF⟩ := kBt_el hF
  obtain ⟨g8, hF⟩ := kGd_el hF
  obtain ⟨g8a, g8b⟩ := kG2 g8
  refine kcwa_I (pc := 124) (As := [.ref (A lD), .int (G.2.2 (a4 + 1).toNatClampNeg), .ref (A lOu)]) (st := []) (A := A) (T := T) (T1 := T9) (r := r5) (M1 := M6) i_156_124 m_8_61 rfl rfl rfl (Nat.le_of_ble_eq_true rfl) (hC ▸ D_143 (d := d + 52) (Nat.le_refl _) (Nat.le_refl _) R q7) g8a g8b (fun A h R xA => ?_)
  rw [← xA lD rfl]
  rw [← xA lMo rfl]
  rw [← xA lOu rfl]
  refine k_istore (pc := 127) (lo2 := [some (.ref G.1), some (.ref (A lD)), some (.ref (A lMo)), some (.ref (A lOu)), some (.int a4), some (.int r5), b6]) i_156_127 (Nat.le_of_ble_eq_true rfl) rfl ?_
  refine k_aload_n (pc := 129) i_156_129 rfl rfl ?_
  refine k_aload_n (pc := 130) i_156_130 rfl rfl ?_
  refine k_iload (pc := 131) i_156_131 rfl ?_
  refine k_iconst (pc := 133) (v := 1) i_156_133 (by decide) ?_
  refine k_iadd (pc := 134) i_156_134 ?_
  obtain ⟨g10, hF⟩ := kGx_el hF
  refine k_sald (pc := 135) i_156_135 g10 ?_
  obtain ⟨r11, M12, q13, hF⟩ := kBd_el hF
  refine kcv_I (pc := 136) (As := [.ref (A lMo), .int (G.2.2 (a4 + 1).toNatClampNeg)]) (st := []) (A := A) (T := T9) (r := r11) (M1 := M12) i_156_136 m_8_66 rfl rfl rfl rfl (rd_Mo R) rfl (Nat.le_of_ble_eq_true rfl) (hC ▸ D_100 (d := d + 54) R q13) (fun h R => ?_)
  refine k_istore (pc := 139) (lo2 := [some (.ref G.1), some (.ref (A lD)), some (.ref (A lMo)), some (.ref (A lOu)), some (.int a4), some (.int r5), some (.int r11)]) i_156_139 (Nat.le_of_ble_eq_true rfl) rfl ?_
  refine k_aload_n (pc := 141) i_156_141 rfl rfl ?_
  obtain ⟨r14, M15, q16, hF⟩ := kBd_el hF
  refine kcv_I (pc := 142) (As := [.ref (A lMo)]) (st := []) (A := A) (T := T9) (r := r14) (M1 := M15) i_156_142 m_8_67 rfl rfl rfl rfl (rd_Mo R) rfl (Nat.le_of_ble_eq_true rfl) (hC ▸ D_94 (d := d + 55) R q16) (fun h R => ?_)
  refine k_iload (pc := 145) i_156_145 rfl ?_
  refine k_icmp_eq (pc := 147) (tgt := 152) i_156_147 (by decide) (fun c17 => ?_) (fun c17 => ?_)
  · rw [if_pos c17] at hF
    refine k_iload (pc := 152) i_156_152 rfl ?_
    refine k_if_ne (pc := 154) (tgt := 169) i_156_154 (by decide) (fun c18 => ?_) (fun c18 => ?_)
    · rw [if_neg c18] at hF
      exact W_156_169 (d := d) hC R K hF
    · rw [if_pos c18] at hF
      refine k_aload_n (pc := 157) i_156_157 rfl rfl ?_
      refine k_iconst (pc := 158) (v := 0) i_156_158 (by decide) ?_
      obtain ⟨g19, hF⟩ := kGx_el hF
      refine k_lald (pc := 159) i_156_159 (rd_Ou R) g19 ?_
      refine k_iload (pc := 160) i_156_160 rfl ?_
      refine k_i2l (pc := 162) i_156_162 ?_
      refine k_lcmp (pc := 163) i_156_163 rfl ?_
      refine k_if_eq (pc := 164) (tgt := 169) i_156_164 (by decide) (fun c20 => ?_) (fun c20 => ?_)
      · rw [if_pos c20] at hF
        exact W_156_169 (d := d) hC R K hF
      · rw [if_neg c20] at hF
        refine k_iconst (pc := 167) (v := 0) i_156_167 (by decide) ?_
        obtain rfl := Option.some.inj hF
        exact k_ireturn (pc := 168) i_156_168 rfl rfl (K _)
  · rw [if_neg c17] at hF
    refine k_iconst (pc := 150) (v := 0) i_156_150 (by decide) ?_
    obtain rfl := Option.some.inj hF
    exact k_ireturn (pc := 151) i_156_151 rfl rfl (K _)
noncomputable def F_156_172 (G : kG) (a4 : Int32) (T : kT) (M : kM) (mc ms : Nat) : Option ((Int32 × kT × kM × Nat × Nat) ⊕ (Int32 × kM)) :=
  kGx (a4 + 1) G.2.1 (kGx (a4 + 2) G.2.1 (kBd (F_144 T (G.2.2 (a4 + 1).toNatClampNeg) (G.2.2 (a4 + 2).toNatClampNeg) M) (fun r7 M8 => kGd (decide (1 ≤ mc) && decide (6 ≤ ms)) (kGx (a4 + 1) G.2.1 (kGx (a4 + 2) G.2.1 (kBd (F_101 T (G.2.2 (a4 + 1).toNatClampNeg) (G.2.2 (a4 + 2).toNatClampNeg) M8) (fun r13 M14 => kBd (F_94 T  M14) (fun r16 M17 => if r16 = r7 then (some (.inl ((a4 + 5), T, M17, mc - 1, ms - 6))) else (some (.inr ((0, M17))))))))))))
set_option maxHeartbeats 1000000 in
theorem W_156_172 {G : kG} {d : Nat} {A : kLb → Nat} {C : kCl} {P : kO → kH → Prop} {T : kT} {M : kM} {mc ms : Nat} {h : kH} {a4 : Int32} {b5 b6 : Option Value} {z : ((Int32 × kT × kM × Nat × Nat) ⊕ (Int32 × kM))} (hC : C = kRun G (d + 56)) (R : kRl A T M h) (K : (Sum.elim (fun w : (Int32 × kT × kM × Nat × Nat) => ∀ (A : kLb → Nat) (h : kH) (b5 b6 : Option Value), kRl A w.2.1 w.2.2.1 h → kWP G 156 C P 23 [some (.ref G.1), some (.ref (A lD)), some (.ref (A lMo)), some (.ref (A lOu)), some (.int w.1), b5, b6] [] h w.2.2.2.1 w.2.2.2.2) (fun z : (Int32 × kM) => ∀ h1, P (.inl (some (.int z.1))) h1)) z) (hF : F_156_172 G a4 T M mc ms = some z) : kWP G 156 C P 172 [some (.ref G.1), some (.ref (A lD)), some (.ref (A lMo)), some (.ref (A lOu)), some (.int a4), b5, b6] [] h mc ms := by
  unfold F_156_172 at hF
  refine k_aload_n (pc := 172) i_156_172 rfl rfl ?_
  refine k_aload_n (pc := 173) i_156_173 rfl rfl ?_
  refine k_iload (pc := 174) i_156_174 rfl ?_
  refine k_iconst (pc := 176) (v := 1) i_156_176 (by decide) ?_
  refine k_iadd (pc := 177) i_156_177 ?_
  obtain ⟨g5, hF⟩ := kGx_el hF
  refine k_sald (pc := 178) i_156_178 g5 ?_
  refine k_aload_n (pc := 179) i_156_179 rfl rfl ?_
  refine k_iload (pc := 180) i_156_180 rfl ?_
  refine k_iconst (pc := 182) (v := 2) i_156_182 (by decide) ?_
  refine k_iadd (pc := 183) i_156_183 ?_
  obtain ⟨g6, hF⟩ := kGx_el hF
  refine k_sald (pc := 184) i_156_184 g6 ?_
  obtain ⟨r7, M8, q9, hF⟩ := kBd_el hF
  obtain ⟨g10, hF⟩ := kGd_el hF
  obtain ⟨g10a, g10b⟩ := kG2 g10
  refine kcw_I (pc := 185) (As := [.ref (A lD), .int (G.2.2 (a4 + 1).toNatClampNeg), .int (G.2.2 (a4 + 2).toNatClampNeg)]) (st := []) (A := A) (T := T) (r := r7) (M1 := M8) i_156_185 m_8_70 rfl rfl rfl (Nat.le_of_ble_eq_true rfl) (hC ▸ D_144 (d := d + 53) (Nat.le_refl _) (Nat.le_refl _) R q9) g10a g10b (fun h R => ?_)
  refine k_istore (pc := 188) (lo2 := [some (.ref G.1), some (.ref (A lD)), some (.ref (A lMo)), some (.ref (A lOu)), some (.int a4), some (.int r7), b6]) i_156_188 (Nat.le_of_ble_eq_true rfl) rfl ?_
  refine k_aload_n (pc := 190) i_156_190 rfl rfl ?_
  refine k_aload_n (pc := 191) i_156_191 rfl rfl ?_
  refine k_iload (pc := 192) i_156_192 rfl ?_
  refine k_iconst (pc := 194) (v := 1) i_156_194 (by decide) ?_
  refine k_iadd (pc := 195) i_156_195 ?_
  obtain ⟨g11, hF⟩ := kGx_el hF
  refine k_sald (pc := 196) i_156_196 g11 ?_
  refine k_aload_n (pc := 197) i_156_197 rfl rfl ?_
  refine k_iload (pc := 198) i_156_198 rfl ?_
  refine k_iconst (pc := 200) (v := 2) i_156_200 (by decide) ?_
  refine k_iadd (pc := 201) i_156_201 ?_
  obtain ⟨g12, hF⟩ := kGx_el hF
  refine k_sald (pc := 202) i_156_202 g12 ?_
  obtain ⟨r13, M14, q15, hF⟩ := kBd_el hF
  refine kcv_V (pc := 203) (As := [.ref (A lMo), .int (G.2.2 (a4 + 1).toNatClampNeg), .int (G.2.2 (a4 + 2).toNatClampNeg)]) (st := []) (A := A) (T := T) (r := r13) (M1 := M14) i_156_203 m_8_73 rfl rfl rfl rfl (rd_Mo R) rfl (Nat.le_of_ble_eq_true rfl) (hC ▸ D_101 (d := d + 52) R q15) (fun h R => ?_)
  refine k_aload_n (pc := 206) i_156_206 rfl rfl ?_
  obtain ⟨r16, M17, q18, hF⟩ := kBd_el hF
  refine kcv_I (pc := 207) (As := [.ref (A lMo)]) (st := []) (A := A) (T := T) (r := r16) (M1 := M17) i_156_207 m_8_67 rfl rfl rfl rfl (rd_Mo R) rfl (Nat.le_of_ble_eq_true rfl) (hC ▸ D_94 (d := d + 55) R q18) (fun h R => ?_)
  refine k_iload (pc := 210) i_156_210 rfl ?_
  refine k_icmp_eq (pc := 212) (tgt := 217) i_156_212 (by decide) (fun c19 => ?_) (fun c19 => ?_)
  · rw [if_pos c19] at hF
    refine k_goto (pc := 217) (tgt := 895) i_156_217 (by decide) ?_
    refine k_iinc (pc := 895) (v := a4 + 5) (lo2 := [some (.ref G.1), some (.ref (A lD)), some (.ref (A lMo)), some (.ref (A lOu)), some (.int (a4 + 5)), some (.int r7), b6]) i_156_895 rfl rfl rfl ?_
    refine k_goto (pc := 898) (tgt := 23) i_156_898 (by decide) ?_
    obtain rfl := Option.some.inj hF
    exact K _ _ _ _ R
  · rw [if_neg c19] at hF
    refine k_iconst (pc := 215) (v := 0) i_156_215 (by decide) ?_
    obtain rfl := Option.some.inj hF
    exact k_ireturn (pc := 216) i_156_216 rfl rfl (K _)
noncomputable def F_156_220 (G : kG) (a4 : Int32) (T : kT) (M : kM) (mc ms : Nat) : Option ((Int32 × kT × kM × Nat × Nat) ⊕ (Int32 × kM)) :=
  kGx (a4 + 1) G.2.1 (kGx (a4 + 2) G.2.1 (kBd (F_145 T (G.2.2 (a4 + 1).toNatClampNeg) (G.2.2 (a4 + 2).toNatClampNeg) M) (fun r8 M9 => kGd (decide (1 ≤ mc) && decide (6 ≤ ms)) (kGx (a4 + 1) G.2.1 (kGx (a4 + 2) G.2.1 (kBd (F_102 T (G.2.2 (a4 + 1).toNatClampNeg) (G.2.2 (a4 + 2).toNatClampNeg) M9) (fun r14 M15 => kBd (F_94 T  M15) (fun r17 M18 => if r17 = r8 then (some (.inl ((a4 + 5), T, M18, mc - 1, ms - 6))) else (some (.inr ((0, M18))))))))))))
set_option maxHeartbeats 1000000 in
theorem W_156_220 {G : kG} {d : Nat} {A : kLb → Nat} {C : kCl} {P : kO → kH → Prop} {T : kT} {M : kM} {mc ms : Nat} {h : kH} {a4 : Int32} {b5 b6 : Option Value} {z : ((Int32 × kT × kM × Nat × Nat) ⊕ (Int32 × kM))} (hC : C = kRun G (d + 56)) (R : kRl A T M h) (K : (Sum.elim (fun w : (Int32 × kT × kM × Nat × Nat) => ∀ (A : kLb → Nat) (h : kH) (b5 b6 : Option Value), kRl A w.2.1 w.2.2.1 h → kWP G 156 C P 23 [some (.ref G.1), some (.ref (A lD)), some (.ref (A lMo)), some (.ref (A lOu)), some (.int w.1), b5, b6] [] h w.2.2.2.1 w.2.2.2.2) (fun z : (Int32 × kM) => ∀ h1, P (.inl (some (.int z.1))) h1)) z) (hF : F_156_220 G a4 T M mc ms = some z) : kWP G 156 C P 220 [some (.ref G.1), some (.ref (A lD)), some (.ref (A lMo)), some (.ref (A lOu)), some (.int a4), b5, b6] [] h mc ms := by
  unfold F_156_220 at hF
  refine k_aload_n (pc := 220) i_156_220 rfl rfl ?_
  refine k_aload_n (pc := 221) i_156_221 rfl rfl ?_
  refine k_iload (pc := 222) i_156_222 rfl ?_
  refine k_iconst (pc := 224) (v := 1) i_156_224 (by decide) ?_
  refine k_iadd (pc := 225) i_156_225 ?_
  obtain ⟨g6, hF⟩ := kGx_el hF
  refine k_sald (pc := 226) i_156_226 g6 ?_
  refine k_aload_n (pc := 227) i_156_227 rfl rfl ?_
  refine k_iload (pc := 228) i_156_228 rfl ?_
  refine k_iconst (pc := 230) (v := 2) i_156_230 (by decide) ?_
  refine k_iadd (pc := 231) i_156_231 ?_
  obtain ⟨g7, hF⟩ := kGx_el hF
  refine k_sald (pc := 232) i_156_232 g7 ?_
  obtain ⟨r8, M9, q10, hF⟩ := kBd_el hF
  obtain ⟨g11, hF⟩ := kGd_el hF
  obtain ⟨g11a, g11b⟩ := kG2 g11
  refine kcw_I (pc := 233) (As := [.ref (A lD), .int (G.2.2 (a4 + 1).toNatClampNeg), .int (G.2.2 (a4 + 2).toNatClampNeg)]) (st := []) (A := A) (T := T) (r := r8) (M1 := M9) i_156_233 m_8_74 rfl rfl rfl (Nat.le_of_ble_eq_true rfl) (hC ▸ D_145 (d := d + 54) (Nat.le_refl _) (Nat.le_refl _) R q10) g11a g11b (fun h R => ?_)
  refine k_istore (pc := 236) (lo2 := [some (.ref G.1), some (.ref (A lD)), some (.ref (A lMo)), some (.ref (A lOu)), some (.int a4), some (.int r8), b6]) i_156_236 (Nat.le_of_ble_eq_true rfl) rfl ?_
  refine k_aload_n (pc := 238) i_156_238 rfl rfl ?_
  refine k_aload_n (pc := 239) i_156_239 rfl rfl ?_
  refine k_iload (pc := 240) i_156_240 rfl ?_
  refine k_iconst (pc := 242) (v := 1) i_156_242 (by decide) ?_
  refine k_iadd (pc := 243) i_156_243 ?_
  obtain ⟨g12, hF⟩ := kGx_el hF
  refine k_sald (pc := 244) i_156_244 g12 ?_
  refine k_aload_n (pc := 245) i_156_245 rfl rfl ?_
  refine k_iload (pc := 246) i_156_246 rfl ?_
  refine k_iconst (pc := 248) (v := 2) i_156_248 (by decide) ?_
  refine k_iadd (pc := 249) i_156_249 ?_
  obtain ⟨g13, hF⟩ := kGx_el hF
  refine k_sald (pc := 250) i_156_250 g13 ?_
  obtain ⟨r14, M15, q16, hF⟩ := kBd_el hF
  refine kcv_V (pc := 251) (As := [.ref (A lMo), .int (G.2.2 (a4 + 1).toNatClampNeg), .int (G.2.2 (a4 + 2).toNatClampNeg)]) (st := []) (A := A) (T := T) (r := r14) (M1 := M15) i_156_251 m_8_76 rfl rfl rfl rfl (rd_Mo R) rfl (Nat.le_of_ble_eq_true rfl) (hC ▸ D_102 (d := d + 54) R q16) (fun h R => ?_)
  refine k_aload_n (pc := 254) i_156_254 rfl rfl ?_
  obtain ⟨r17, M18, q19, hF⟩ := kBd_el hF
  refine kcv_I (pc := 255) (As := [.ref (A lMo)]) (st := []) (A := A) (T := T) (r := r17) (M1 := M18) i_156_255 m_8_67 rfl rfl rfl rfl (rd_Mo R) rfl (Nat.le_of_ble_eq_true rfl) (hC ▸ D_94 (d := d + 55) R q19) (fun h R => ?_)
  refine k_iload (pc := 258) i_156_258 rfl ?_
  refine k_icmp_eq (pc := 260) (tgt := 265) i_156_260 (by decide) (fun c20 => ?_) (fun c20 => ?_)
  · rw [if_pos c20] at hF
    refine k_goto (pc := 265) (tgt := 895) i_156_265 (by decide) ?_
    refine k_iinc (pc := 895) (v := a4 + 5) (lo2 := [some (.ref G.1), some (.ref (A lD)), some (.ref (A lMo)), some (.ref (A lOu)), some (.int (a4 + 5)), some (.int r8), b6]) i_156_895 rfl rfl rfl ?_
    refine k_goto (pc := 898) (tgt := 23) i_156_898 (by decide) ?_
    obtain rfl := Option.some.inj hF
    exact K _ _ _ _ R
  · rw [if_neg c20] at hF
    refine k_iconst (pc := 263) (v := 0) i_156_263 (by decide) ?_
    obtain rfl := Option.some.inj hF
    exact k_ireturn (pc := 264) i_156_264 rfl rfl (K _)
noncomputable def F_156_321 (G : kG) (a4 : Int32) (T : kT) (M : kM) (mc ms : Nat) : Option ((Int32 × kT × kM × Nat × Nat) ⊕ (Int32 × kM)) :=
  some (.inl ((a4 + 5), T, M, mc, ms))
set_option maxHeartbeats 1000000 in
theorem W_156_321 {G : kG} {d : Nat} {A : kLb → Nat} {C : kCl} {P : kO → kH → Prop} {T : kT} {M : kM} {mc ms : Nat} {h : kH} {a4 : Int32} {b5 b6 : Option Value} {z : ((Int32 × kT × kM × Nat × Nat) ⊕ (Int32 × kM))} (hC : C = kRun G (d + 56)) (R : kRl A T M h) (K : (Sum.elim (fun w : (Int32 × kT × kM × Nat × Nat) => ∀ (A : kLb → Nat) (h : kH) (b5 b6 : Option Value), kRl A w.2.1 w.2.2.1 h → kWP G 156 C P 23 [some (.ref G.1), some (.ref (A lD)), some (.ref (A lMo)), some (.ref (A lOu)), some (.int w.1), b5, b6] [] h w.2.2.2.1 w.2.2.2.2) (fun z : (Int32 × kM) => ∀ h1, P (.inl (some (.int z.1))) h1)) z) (hF : F_156_321 G a4 T M mc ms = some z) : kWP G 156 C P 321 [some (.ref G.1), some (.ref (A lD)), some (.ref (A lMo)), some (.ref (A lOu)), some (.int a4), b5, b6] [] h mc ms := by
  unfold F_156_321 at hF
  refine k_goto (pc := 321) (tgt := 895) i_156_321 (by decide) ?_
  refine k_iinc (pc := 895) (v := a4 + 5) (lo2 := [some (.ref G.1), some (.ref (A lD)), some (.ref (A lMo)), some (.ref (A lOu)), some (.int (a4 + 5)), b5, b6]) i_156_895 rfl rfl rfl ?_
  refine k_goto (pc := 898) (tgt := 23) i_156_898 (by decide) ?_
  obtain rfl := Option.some.inj hF
  exact K _ _ _ _ R
noncomputable def F_156_268 (G : kG) (a4 : Int32) (T : kT) (M : kM) (mc ms : Nat) : Option ((Int32 × kT × kM × Nat × Nat) ⊕ (Int32 × kM)) :=
  kGx (a4 + 1) G.2.1 (kBd (F_146 T (G.2.2 (a4 + 1).toNatClampNeg) M) (fun r8 M9 => kGd (decide (1 ≤ mc) && decide (6 ≤ ms)) (kGx (a4 + 1) G.2.1 (kBd (F_103 T (G.2.2 (a4 + 1).toNatClampNeg) M9) (fun r13 M14 => kBd (F_94 T  M14) (fun r16 M17 => if r16 = r8 then (if r8 = 0 then (kGx 0 1 (if (lg_cmp (go M17 (0 : Int32).toNatClampNeg) r13.toInt64) = 0 then (F_156_321 G a4 T M17 (mc - 1) (ms - 6)) else (some (.inr ((0, M17)))))) else (F_156_321 G a4 T M17 (mc - 1) (ms - 6))) else (some (.inr ((0, M17))))))))))
set_option maxHeartbeats 1000000 in
theorem W_156_268 {G : kG} {d : Nat} {A : kLb → Nat} {C : kCl} {P : kO → kH → Prop} {T : kT} {M : kM} {mc ms : Nat} {h : kH} {a4 : Int32} {b5 b6 : Option Value} {z : ((Int32 × kT × kM × Nat × Nat) ⊕ (Int32 × kM))} (hC : C = kRun G (d + 56)) (R : kRl A T M h) (K : (Sum.elim (fun w : (Int32 × kT × kM × Nat × Nat) => ∀ (A : kLb → Nat) (h : kH) (b5 b6 : Option Value), kRl A w.2.1 w.2.2.1 h → kWP G 156 C P 23 [some (.ref G.1), some (.ref (A lD)), some (.ref (A lMo)), some (.ref (A lOu)), some (.int w.1), b5, b6] [] h w.2.2.2.1 w.2.2.2.2) (fun z : (Int32 × kM) => ∀ h1, P (.inl (some (.int z.1))) h1)) z) (hF : F_156_268 G a4 T M mc ms = some z) : kWP G 156 C P 268 [some (.ref G.1), some (.ref (A lD)), some (.ref (A lMo)), some (.ref (A lOu)), some (.int a4), b5, b6] [] h mc ms := by
  unfold F_156_268 at hF
  refine k_aload_n (pc := 268) i_156_268 rfl rfl ?_
  refine k_aload_n (pc := 269) i_156_269 rfl rfl ?_
  refine k_iload (pc := 270) i_156_270 rfl ?_
  refine k_iconst (pc := 272) (v := 1) i_156_272 (by decide) ?_
  refine k_iadd (pc := 273) i_156_273 ?_
  obtain ⟨g7, hF⟩ := kGx_el hF
  refine k_sald (pc := 274) i_156_274 g7 ?_
  refine k_aload_n (pc := 275) i_156_275 rfl rfl ?_
  obtain ⟨r8, M9, q10, hF⟩ := kBd_el hF
  obtain ⟨g11, hF⟩ := kGd_el hF
  obtain ⟨g11a, g11b⟩ := kG2 g11
  refine kcw_I (pc := 276) (As := [.ref (A lD), .int (G.2.2 (a4 + 1).toNatClampNeg), .ref (A lOu)]) (st := []) (A := A) (T := T) (r := r8) (M1 := M9) i_156_276 m_8_77 rfl rfl rfl (Nat.le_of_ble_eq_true rfl) (hC ▸ D_146 (d := d + 53) (Nat.le_refl _) (Nat.le_refl _) R q10) g11a g11b (fun h R => ?_)
  refine k_istore (pc := 279) (lo2 := [some (.ref G.1), some (.ref (A lD)), some (.ref (A lMo)), some (.ref (A lOu)), some (.int a4), some (.int r8), b6]) i_156_279 (Nat.le_of_ble_eq_true rfl) rfl ?_
  refine k_aload_n (pc := 281) i_156_281 rfl rfl ?_
  refine k_aload_n (pc := 282) i_156_282 rfl rfl ?_
  refine k_iload (pc := 283) i_156_283 rfl ?_
  refine k_iconst (pc := 285) (v := 1) i_156_285 (by decide) ?_
  refine k_iadd (pc := 286) i_156_286 ?_
  obtain ⟨g12, hF⟩ := kGx_el hF
  refine k_sald (pc := 287) i_156_287 g12 ?_
  obtain ⟨r13, M14, q15, hF⟩ := kBd_el hF
  refine kcv_I (pc := 288) (As := [.ref (A lMo), .int (G.2.2 (a4 + 1).toNatClampNeg)]) (st := []) (A := A) (T := T) (r := r13) (M1 := M14) i_156_288 m_8_79 rfl rfl rfl rfl (rd_Mo R) rfl (Nat.le_of_ble_eq_true rfl) (hC ▸ D_103 (d := d + 53) R q15) (fun h R => ?_)
  refine k_istore (pc := 291) (lo2 := [some (.ref G.1), some (.ref (A lD)), some (.ref (A lMo)), some (.ref (A lOu)), some (.int a4), some (.int r8), some (.int r13)]) i_156_291 (Nat.le_of_ble_eq_true rfl) rfl ?_
  refine k_aload_n (pc := 293) i_156_293 rfl rfl ?_
  obtain ⟨r16, M17, q18, hF⟩ := kBd_el hF
  refine kcv_I (pc := 294) (As := [.ref (A lMo)]) (st := []) (A := A) (T := T) (r := r16) (M1 := M17) i_156_294 m_8_67 rfl rfl rfl rfl (rd_Mo R) rfl (Nat.le_of_ble_eq_true rfl) (hC ▸ D_94 (d := d + 55) R q18) (fun h R => ?_)
  refine k_iload (pc := 297) i_156_297 rfl ?_
  refine k_icmp_eq (pc := 299) (tgt := 304) i_156_299 (by decide) (fun c19 => ?_) (fun c19 => ?_)
  · rw [if_pos c19] at hF
    refine k_iload (pc := 304) i_156_304 rfl ?_
    refine k_if_ne (pc := 306) (tgt := 321) i_156_306 (by decide) (fun c20 => ?_) (fun c20 => ?_)
    · rw [if_neg c20] at hF
      exact W_156_321 (d := d) hC R K hF
    · rw [if_pos c20] at hF
      refine k_aload_n (pc := 309) i_156_309 rfl rfl ?_
      refine k_iconst (pc := 310) (v := 0) i_156_310 (by decide) ?_
      obtain ⟨g21, hF⟩ := kGx_el hF
      refine k_lald (pc := 311) i_156_311 (rd_Ou R) g21 ?_
      refine k_iload (pc := 312) i_156_312 rfl ?_
      refine k_i2l (pc := 314) i_156_314 ?_
      refine k_lcmp (pc := 315) i_156_315 rfl ?_
      refine k_if_eq (pc := 316) (tgt := 321) i_156_316 (by decide) (fun c22 => ?_) (fun c22 => ?_)
      · rw [if_pos c22] at hF
        exact W_156_321 (d := d) hC R K hF
      · rw [if_neg c22] at hF
        refine k_iconst (pc := 319) (v := 0) i_156_319 (by decide) ?_
        obtain rfl := Option.some.inj hF
        exact k_ireturn (pc := 320) i_156_320 rfl rfl (K _)
  · rw [if_neg c19] at hF
    refine k_iconst (pc := 302) (v := 0) i_156_302 (by decide) ?_
    obtain rfl := Option.some.inj hF
    exact k_ireturn (pc := 303) i_156_303 rfl rfl (K _)
noncomputable def F_156_401 (G : kG) (a4 : Int32) (T : kT) (M : kM) (mc ms : Nat) : Option ((Int32 × kT × kM × Nat × Nat) ⊕ (Int32 × kM)) :=
  some (.inl ((a4 + 5), T, M, mc, ms))
set_option maxHeartbeats 1000000 in
theorem W_156_401 {G : kG} {d : Nat} {A : kLb → Nat} {C : kCl} {P : kO → kH → Prop} {T : kT} {M : kM} {mc ms : Nat} {h : kH} {a4 : Int32} {b5 b6 : Option Value} {z : ((Int32 × kT × kM × Nat × Nat) ⊕ (Int32 × kM))} (hC : C = kRun G (d + 56)) (R : kRl A T M h) (K : (Sum.elim (fun w : (Int32 × kT × kM × Nat × Nat) => ∀ (A : kLb → Nat) (h : kH) (b5 b6 : Option Value), kRl A w.2.1 w.2.2.1 h → kWP G 156 C P 23 [some (.ref G.1), some (.ref (A lD)), some (.ref (A lMo)), some (.ref (A lOu)), some (.int w.1), b5, b6] [] h w.2.2.2.1 w.2.2.2.2) (fun z : (Int32 × kM) => ∀ h1, P (.inl (some (.int z.1))) h1)) z) (hF : F_156_401 G a4 T M mc ms = some z) : kWP G 156 C P 401 [some (.ref G.1), some (.ref (A lD)), some (.ref (A lMo)), some (.ref (A lOu)), some (.int a4), b5, b6] [] h mc ms := by
  unfold F_156_401 at hF
  refine k_goto (pc := 401) (tgt := 895) i_156_401 (by decide) ?_
  refine k_iinc (pc := 895) (v := a4 + 5) (lo2 := [some (.ref G.1), some (.ref (A lD)), some (.ref (A lMo)), some (.ref (A lOu)), some (.int (a4 + 5)), b5, b6]) i_156_895 rfl rfl rfl ?_
  refine k_goto (pc := 898) (tgt := 23) i_156_898 (by decide) ?_
  obtain rfl := Option.some.inj hF
  exact K _ _ _ _ R
noncomputable def F_156_324 (G : kG) (a4 : Int32) (T : kT) (M : kM) (mc ms : Nat) : Option ((Int32 × kT × kM × Nat × Nat) ⊕ (Int32 × kM)) :=
  kGx (a4 + 1) G.2.1 (kGx (a4 + 2) G.2.1 (kGx (a4 + 3) G.2.1 (kBd (F_147 T (G.2.2 (a4 + 1).toNatClampNeg) (G.2.2 (a4 + 2).toNatClampNeg) (G.2.2 (a4 + 3).toNatClampNeg) M) (fun r11 M12 => kGd (decide (1 ≤ mc) && decide (6 ≤ ms)) (kGx (a4 + 1) G.2.1 (kGx (a4 + 2) G.2.1 (kGx (a4 + 3) G.2.1 (kBd (F_105 T (G.2.2 (a4 + 1).toNatClampNeg) (G.2.2 (a4 + 2).toNatClampNeg) (G.2.2 (a4 + 3).toNatClampNeg) M12) (fun r18 M19 => kBd (F_94 T  M19) (fun r21 M22 => if r21 = r11 then (if r11 = 0 then (kGx 0 1 (if (lg_cmp (go M22 (0 : Int32).toNatClampNeg) r18.toInt64) = 0 then (F_156_401 G a4 T M22 (mc - 1) (ms - 6)) else (some (.inr ((0, M22)))))) else (F_156_401 G a4 T M22 (mc - 1) (ms - 6))) else (some (.inr ((0, M22))))))))))))))
set_option maxHeartbeats 1000000 in
theorem W_156_324 {G : kG} {d : Nat} {A : kLb → Nat} {C : kCl} {P : kO → kH → Prop} {T : kT} {M : kM} {mc ms : Nat} {h : kH} {a4 : Int32} {b5 b6 : Option Value} {z : ((Int32 × kT × kM × Nat × Nat) ⊕ (Int32 × kM))} (hC : C = kRun G (d + 56)) (R : kRl A T M h) (K : (Sum.elim (fun w : (Int32 × kT × kM × Nat × Nat) => ∀ (A : kLb → Nat) (h : kH) (b5 b6 : Option Value), kRl A w.2.1 w.2.2.1 h → kWP G 156 C P 23 [some (.ref G.1), some (.ref (A lD)), some (.ref (A lMo)), some (.ref (A lOu)), some (.int w.1), b5, b6] [] h w.2.2.2.1 w.2.2.2.2) (fun z : (Int32 × kM) => ∀ h1, P (.inl (some (.int z.1))) h1)) z) (hF : F_156_324 G a4 T M mc ms = some z) : kWP G 156 C P 324 [some (.ref G.1), some (.ref (A lD)), some (.ref (A lMo)), some (.ref (A lOu)), some (.int a4), b5, b6] [] h mc ms := by
  unfold F_156_324 at hF
  refine k_aload_n (pc := 324) i_156_324 rfl rfl ?_
  refine k_aload_n (pc := 325) i_156_325 rfl rfl ?_
  refine k_iload (pc := 326) i_156_326 rfl ?_
  refine k_iconst (pc := 328) (v := 1) i_156_328 (by decide) ?_
  refine k_iadd (pc := 329) i_156_329 ?_
  obtain ⟨g8, hF⟩ := kGx_el hF
  refine k_sald (pc := 330) i_156_330 g8 ?_
  refine k_aload_n (pc := 331) i_156_331 rfl rfl ?_
  refine k_iload (pc := 332) i_156_332 rfl ?_
  refine k_iconst (pc := 334) (v := 2) i_156_334 (by decide) ?_
  refine k_iadd (pc := 335) i_156_335 ?_
  obtain ⟨g9, hF⟩ := kGx_el hF
  refine k_sald (pc := 336) i_156_336 g9 ?_
  refine k_aload_n (pc := 337) i_156_337 rfl rfl ?_
  refine k_iload (pc := 338) i_156_338 rfl ?_
  refine k_iconst (pc := 340) (v := 3) i_156_340 (by decide) ?_
  refine k_iadd (pc := 341) i_156_341 ?_
  obtain ⟨g10, hF⟩ := kGx_el hF
  refine k_sald (pc := 342) i_156_342 g10 ?_
  refine k_aload_n (pc := 343) i_156_343 rfl rfl ?_
  obtain ⟨r11, M12, q13, hF⟩ := kBd_el hF
  obtain ⟨g14, hF⟩ := kGd_el hF
  obtain ⟨g14a, g14b⟩ := kG2 g14
  refine kcw_I (pc := 344) (As := [.ref (A lD), .int (G.2.2 (a4 + 1).toNatClampNeg), .int (G.2.2 (a4 + 2).toNatClampNeg), .int (G.2.2 (a4 + 3).toNatClampNeg), .ref (A lOu)]) (st := []) (A := A) (T := T) (r := r11) (M1 := M12) i_156_344 m_8_80 rfl rfl rfl (Nat.le_of_ble_eq_true rfl) (hC ▸ D_147 (d := d + 51) (Nat.le_refl _) (Nat.le_refl _) R q13) g14a g14b (fun h R => ?_)
  refine k_istore (pc := 347) (lo2 := [some (.ref G.1), some (.ref (A lD)), some (.ref (A lMo)), some (.ref (A lOu)), some (.int a4), some (.int r11), b6]) i_156_347 (Nat.le_of_ble_eq_true rfl) rfl ?_
  refine k_aload_n (pc := 349) i_156_349 rfl rfl ?_
  refine k_aload_n (pc := 350) i_156_350 rfl rfl ?_
  refine k_iload (pc := 351) i_156_351 rfl ?_
  refine k_iconst (pc := 353) (v := 1) i_156_353 (by decide) ?_
  refine k_iadd (pc := 354) i_156_354 ?_
  obtain ⟨g15, hF⟩ := kGx_el hF
  refine k_sald (pc := 355) i_156_355 g15 ?_
  refine k_aload_n (pc := 356) i_156_356 rfl rfl ?_
  refine k_iload (pc := 357) i_156_357 rfl ?_
  refine k_iconst (pc := 359) (v := 2) i_156_359 (by decide) ?_
  refine k_iadd (pc := 360) i_156_360 ?_
  obtain ⟨g16, hF⟩ := kGx_el hF
  refine k_sald (pc := 361) i_156_361 g16 ?_
  refine k_aload_n (pc := 362) i_156_362 rfl rfl ?_
  refine k_iload (pc := 363) i_156_363 rfl ?_
  refine k_iconst (pc := 365) (v := 3) i_156_365 (by decide) ?_
  refine k_iadd (pc := 366) i_156_366 ?_
  obtain ⟨g17, hF⟩ := kGx_el hF
  refine k_sald (pc := 367) i_156_367 g17 ?_
  obtain ⟨r18, M19, q20, hF⟩ := kBd_el hF
  refine kcv_I (pc := 368) (As := [.ref (A lMo), .int (G.2.2 (a4 + 1).toNatClampNeg), .int (G.2.2 (a4 + 2).toNatClampNeg), .int (G.2.2 (a4 + 3).toNatClampNeg)]) (st := []) (A := A) (T := T) (r := r18) (M1 := M19) i_156_368 m_8_83 rfl rfl rfl rfl (rd_Mo R) rfl (Nat.le_of_ble_eq_true rfl) (hC ▸ D_105 (d := d + 52) R q20) (fun h R => ?_)
  refine k_istore (pc := 371) (lo2 := [some (.ref G.1), some (.ref (A lD)), some (.ref (A lMo)), some (.ref (A lOu)), some (.int a4), some (.int r11), some (.int r18)]) i_156_371 (Nat.le_of_ble_eq_true rfl) rfl ?_
  refine k_aload_n (pc := 373) i_156_373 rfl rfl ?_
  obtain ⟨r21, M22, q23, hF⟩ := kBd_el hF
  refine kcv_I (pc := 374) (As := [.ref (A lMo)]) (st := []) (A := A) (T := T) (r := r21) (M1 := M22) i_156_374 m_8_67 rfl rfl rfl rfl (rd_Mo R) rfl (Nat.le_of_ble_eq_true rfl) (hC ▸ D_94 (d := d + 55) R q23) (fun h R => ?_)
  refine k_iload (pc := 377) i_156_377 rfl ?_
  refine k_icmp_eq (pc := 379) (tgt := 384) i_156_379 (by decide) (fun c24 => ?_) (fun c24 => ?_)
  · rw [if_pos c24] at hF
    refine k_iload (pc := 384) i_156_384 rfl ?_
    refine k_if_ne (pc := 386) (tgt := 401) i_156_386 (by decide) (fun c25 => ?_) (fun c25 => ?_)
    · rw [if_neg c25] at hF
      exact W_156_401 (d := d) hC R K hF
    · rw [if_pos c25] at hF
      refine k_aload_n (pc := 389) i_156_389 rfl rfl ?_
      refine k_iconst (pc := 390) (v := 0) i_156_390 (by decide) ?_
      obtain ⟨g26, hF⟩ := kGx_el hF
      refine k_lald (pc := 391) i_156_391 (rd_Ou R) g26 ?_
      refine k_iload (pc := 392) i_156_392 rfl ?_
      refine k_i2l (pc := 394) i_156_394 ?_
      refine k_lcmp (pc := 395) i_156_395 rfl ?_
      refine k_if_eq (pc := 396) (tgt := 401) i_156_396 (by decide) (fun c27 => ?_) (fun c27 => ?_)
      · rw [if_pos c27] at hF
        exact W_156_401 (d := d) hC R K hF
      · rw [if_neg c27] at hF
        refine k_iconst (pc := 399) (v := 0) i_156_399 (by decide) ?_
        obtain rfl := Option.some.inj hF
        exact k_ireturn (pc := 400) i_156_400 rfl rfl (K _)
  · rw [if_neg c24] at hF
    refine k_iconst (pc := 382) (v := 0) i_156_382 (by decide) ?_
    obtain rfl := Option.some.inj hF
    exact k_ireturn (pc := 383) i_156_383 rfl rfl (K _)
noncomputable def F_156_493 (G : kG) (a4 : Int32) (T : kT) (M : kM) (mc ms : Nat) : Option ((Int32 × kT × kM × Nat × Nat) ⊕ (Int32 × kM)) :=
  some (.inl ((a4 + 5), T, M, mc, ms))
set_option maxHeartbeats 1000000 in
theorem W_156_493 {G : kG} {d : Nat} {A : kLb → Nat} {C : kCl} {P : kO → kH → Prop} {T : kT} {M : kM} {mc ms : Nat} {h : kH} {a4 : Int32} {b5 b6 : Option Value} {z : ((Int32 × kT × kM × Nat × Nat) ⊕ (Int32 × kM))} (hC : C = kRun G (d + 56)) (R : kRl A T M h) (K : (Sum.elim (fun w : (Int32 × kT × kM × Nat × Nat) => ∀ (A : kLb → Nat) (h : kH) (b5 b6 : Option Value), kRl A w.2.1 w.2.2.1 h → kWP G 156 C P 23 [some (.ref G.1), some (.ref (A lD)), some (.ref (A lMo)), some (.ref (A lOu)), some (.int w.1), b5, b6] [] h w.2.2.2.1 w.2.2.2.2) (fun z : (Int32 × kM) => ∀ h1, P (.inl (some (.int z.1))) h1)) z) (hF : F_156_493 G a4 T M mc ms = some z) : kWP G 156 C P 493 [some (.ref G.1), some (.ref (A lD)), some (.ref (A lMo)), some (.ref (A lOu)), some (.int a4), b5, b6] [] h mc ms := by
  unfold F_156_493 at hF
  refine k_goto (pc := 493) (tgt := 895) i_156_493 (by decide) ?_
  refine k_iinc (pc := 895) (v := a4 + 5) (lo2 := [some (.ref G.1), some (.ref (A lD)), some (.ref (A lMo)), some (.ref (A lOu)), some (.int (a4 + 5)), b5, b6]) i_156_895 rfl rfl rfl ?_
  refine k_goto (pc := 898) (tgt := 23) i_156_898 (by decide) ?_
  obtain rfl := Option.some.inj hF
  exact K _ _ _ _ R
noncomputable def F_156_404 (G : kG) (a4 : Int32) (T : kT) (M : kM) (mc ms : Nat) : Option ((Int32 × kT × kM × Nat × Nat) ⊕ (Int32 × kM)) :=
  kGx (a4 + 1) G.2.1 (kGx (a4 + 2) G.2.1 (kGx (a4 + 3) G.2.1 (kGx (a4 + 4) G.2.1 (kBd (F_148 T (G.2.2 (a4 + 1).toNatClampNeg) (G.2.2 (a4 + 2).toNatClampNeg) (G.2.2 (a4 + 3).toNatClampNeg) (G.2.2 (a4 + 4).toNatClampNeg) M) (fun r13 M14 => kGd (decide (1 ≤ mc) && decide (6 ≤ ms)) (kGx (a4 + 1) G.2.1 (kGx (a4 + 2) G.2.1 (kGx (a4 + 3) G.2.1 (kGx (a4 + 4) G.2.1 (kBd (F_106 T (G.2.2 (a4 + 1).toNatClampNeg) (G.2.2 (a4 + 2).toNatClampNeg) (G.2.2 (a4 + 3).toNatClampNeg) (G.2.2 (a4 + 4).toNatClampNeg) M14) (fun r21 M22 => kBd (F_94 T  M22) (fun r24 M25 => if r24 = r13 then (if r13 = 0 then (kGx 0 1 (if (lg_cmp (go M25 (0 : Int32).toNatClampNeg) r21.toInt64) = 0 then (F_156_493 G a4 T M25 (mc - 1) (ms - 6)) else (some (.inr ((0, M25)))))) else (F_156_493 G a4 T M25 (mc - 1) (ms - 6))) else (some (.inr ((0, M25))))))))))))))))
set_option maxHeartbeats 1000000 in
theorem W_156_404 {G : kG} {d : Nat} {A : kLb → Nat} {C : kCl} {P : kO → kH → Prop} {T : kT} {M : kM} {mc ms : Nat} {h : kH} {a4 : Int32} {b5 b6 : Option Value} {z : ((Int32 × kT × kM × Nat × Nat) ⊕ (Int32 × kM))} (hC : C = kRun G (d + 56)) (R : kRl A T M h) (K : (Sum.elim (fun w : (Int32 × kT × kM × Nat × Nat) => ∀ (A : kLb → Nat) (h : kH) (b5 b6 : Option Value), kRl A w.2.1 w.2.2.1 h → kWP G 156 C P 23 [some (.ref G.1), some (.ref (A lD)), some (.ref (A lMo)), some (.ref (A lOu)), some (.int w.1), b5, b6] [] h w.2.2.2.1 w.2.2.2.2) (fun z : (Int32 × kM) => ∀ h1, P (.inl (some (.int z.1))) h1)) z) (hF : F_156_404 G a4 T M mc ms = some z) : kWP G 156 C P 404 [some (.ref G.1), some (.ref (A lD)), some (.ref (A lMo)), some (.ref (A lOu)), some (.int a4), b5, b6] [] h mc ms := by
  unfold F_156_404 at hF
  refine k_aload_n (pc := 404) i_156_404 rfl rfl ?_
  refine k_aload_n (pc := 405) i_156_405 rfl rfl ?_
  refine k_iload (pc := 406) i_156_406 rfl ?_
  refine k_iconst (pc := 408) (v := 1) i_156_408 (by decide) ?_
  refine k_iadd (pc := 409) i_156_409 ?_
  obtain ⟨g9, hF⟩ := kGx_el hF
  refine k_sald (pc := 410) i_156_410 g9 ?_
  refine k_aload_n (pc := 411) i_156_411 rfl rfl ?_
  refine k_iload (pc := 412) i_156_412 rfl ?_
  refine k_iconst (pc := 414) (v := 2) i_156_414 (by decide) ?_
  refine k_iadd (pc := 415) i_156_415 ?_
  obtain ⟨g10, hF⟩ := kGx_el hF
  refine k_sald (pc := 416) i_156_416 g10 ?_
  refine k_aload_n (pc := 417) i_156_417 rfl rfl ?_
  refine k_iload (pc := 418) i_156_418 rfl ?_
  refine k_iconst (pc := 420) (v := 3) i_156_420 (by decide) ?_
  refine k_iadd (pc := 421) i_156_421 ?_
  obtain ⟨g11, hF⟩ := kGx_el hF
  refine k_sald (pc := 422) i_156_422 g11 ?_
  refine k_aload_n (pc := 423) i_156_423 rfl rfl ?_
  refine k_iload (pc := 424) i_156_424 rfl ?_
  refine k_iconst (pc := 426) (v := 4) i_156_426 (by decide) ?_
  refine k_iadd (pc := 427) i_156_427 ?_
  obtain ⟨g12, hF⟩ := kGx_el hF
  refine k_sald (pc := 428) i_156_428 g12 ?_
  refine k_aload_n (pc := 429) i_156_429 rfl rfl ?_
  obtain ⟨r13, M14, q15, hF⟩ := kBd_el hF
  obtain ⟨g16, hF⟩ := kGd_el hF
  obtain ⟨g16a, g16b⟩ := kG2 g16
  refine kcw_I (pc := 430) (As := [.ref (A lD), .int (G.2.2 (a4 + 1).toNatClampNeg), .int (G.2.2 (a4 + 2).toNatClampNeg), .int (G.2.2 (a4 + 3).toNatClampNeg), .int (G.2.2 (a4 + 4).toNatClampNeg), .ref (A lOu)]) (st := []) (A := A) (T := T) (r := r13) (M1 := M14) i_156_430 m_8_84 rfl rfl rfl (Nat.le_of_ble_eq_true rfl) (hC ▸ D_148 (d := d + 51) (Nat.le_refl _) (Nat.le_refl _) R q15) g16a g16b (fun h R => ?_)
  refine k_istore (pc := 433) (lo2 := [some (.ref G.1), some (.ref (A lD)), some (.ref (A lMo)), some (.ref (A lOu)), some (.int a4), some (.int r13), b6]) i_156_433 (Nat.le_of_ble_eq_true rfl) rfl ?_
  refine k_aload_n (pc := 435) i_156_435 rfl rfl ?_
  refine k_aload_n (pc := 436) i_156_436 rfl rfl ?_
  refine k_iload (pc := 437) i_156_437 rfl ?_
  refine k_iconst (pc := 439) (v := 1) i_156_439 (by decide) ?_
  refine k_iadd (pc := 440) i_156_440 ?_
  obtain ⟨g17, hF⟩ := kGx_el hF
  refine k_sald (pc := 441) i_156_441 g17 ?_
  refine k_aload_n (pc := 442) i_156_442 rfl rfl ?_
  refine k_iload (pc := 443) i_156_443 rfl ?_
  refine k_iconst (pc := 445) (v := 2) i_156_445 (by decide) ?_
  refine k_iadd (pc := 446) i_156_446 ?_
  obtain ⟨g18, hF⟩ := kGx_el hF
  refine k_sald (pc := 447) i_156_447 g18 ?_
  refine k_aload_n (pc := 448) i_156_448 rfl rfl ?_
  refine k_iload (pc := 449) i_156_449 rfl ?_
  refine k_iconst (pc := 451) (v := 3) i_156_451 (by decide) ?_
  refine k_iadd (pc := 452) i_156_452 ?_
  obtain ⟨g19, hF⟩ := kGx_el hF
  refine k_sald (pc := 453) i_156_453 g19 ?_
  refine k_aload_n (pc := 454) i_156_454 rfl rfl ?_
  refine k_iload (pc := 455) i_156_455 rfl ?_
  refine k_iconst (pc := 457) (v := 4) i_156_457 (by decide) ?_
  refine k_iadd (pc := 458) i_156_458 ?_
  obtain ⟨g20, hF⟩ := kGx_el hF
  refine k_sald (pc := 459) i_156_459 g20 ?_
  obtain ⟨r21, M22, q23, hF⟩ := kBd_el hF
  refine kcv_I (pc := 460) (As := [.ref (A lMo), .int (G.2.2 (a4 + 1).toNatClampNeg), .int (G.2.2 (a4 + 2).toNatClampNeg), .int (G.2.2 (a4 + 3).toNatClampNeg), .int (G.2.2 (a4 + 4).toNatClampNeg)]) (st := []) (A := A) (T := T) (r := r21) (M1 := M22) i_156_460 m_8_87 rfl rfl rfl rfl (rd_Mo R) rfl (Nat.le_of_ble_eq_true rfl) (hC ▸ D_106 (d := d + 52) R q23) (fun h R => ?_)
  refine k_istore (pc := 463) (lo2 := [some (.ref G.1), some (.ref (A lD)), some (.ref (A lMo)), some (.ref (A lOu)), some (.int a4), some (.int r13), some (.int r21)]) i_156_463 (Nat.le_of_ble_eq_true rfl) rfl ?_
  refine k_aload_n (pc := 465) i_156_465 rfl rfl ?_
  obtain ⟨r24, M25, q26, hF⟩ := kBd_el hF
  refine kcv_I (pc := 466) (As := [.ref (A lMo)]) (st := []) (A := A) (T := T) (r := r24) (M1 := M25) i_156_466 m_8_67 rfl rfl rfl rfl (rd_Mo R) rfl (Nat.le_of_ble_eq_true rfl) (hC ▸ D_94 (d := d + 55) R q26) (fun h R => ?_)
  refine k_iload (pc := 469) i_156_469 rfl ?_
  refine k_icmp_eq (pc := 471) (tgt := 476) i_156_471 (by decide) (fun c27 => ?_) (fun c27 => ?_)
  · rw [if_pos c27] at hF
    refine k_iload (pc := 476) i_156_476 rfl ?_
    refine k_if_ne (pc := 478) (tgt := 493) i_156_478 (by decide) (fun c28 => ?_) (fun c28 => ?_)
    · rw [if_neg c28] at hF
      exact W_156_493 (d := d) hC R K hF
    · rw [if_pos c28] at hF
      refine k_aload_n (pc := 481) i_156_481 rfl rfl ?_
      refine k_iconst (pc := 482) (v := 0) i_156_482 (by decide) ?_
      obtain ⟨g29, hF⟩ := kGx_el hF
      refine k_lald (pc := 483) i_156_483 (rd_Ou R) g29 ?_
      refine k_iload (pc := 484) i_156_484 rfl ?_
      refine k_i2l (pc := 486) i_156_486 ?_
      refine k_lcmp (pc := 487) i_156_487 rfl ?_
      refine k_if_eq (pc := 488) (tgt := 493) i_156_488 (by decide) (fun c30 => ?_) (fun c30 => ?_)
      · rw [if_pos c30] at hF
        exact W_156_493 (d := d) hC R K hF
      · rw [if_neg c30] at hF
        refine k_iconst (pc := 491) (v := 0) i_156_491 (by decide) ?_
        obtain rfl := Option.some.inj hF
        exact k_ireturn (pc := 492) i_156_492 rfl rfl (K _)
  · rw [if_neg c27] at hF
    refine k_iconst (pc := 474) (v := 0) i_156_474 (by decide) ?_
    obtain rfl := Option.some.inj hF
    exact k_ireturn (pc := 475) i_156_475 rfl rfl (K _)
noncomputable def F_156_496 (G : kG) (a4 : Int32) (T : kT) (M : kM) (mc ms : Nat) : Option ((Int32 × kT × kM × Nat × Nat) ⊕ (Int32 × kM)) :=
  kBd (F_149 T  M) (fun r10 M11 => kGd (decide (1 ≤ mc) && decide (6 ≤ ms)) (kBd (F_107 T  M11) (fun r14 M15 => kBd (F_94 T  M15) (fun r17 M18 => if r17 = r10 then (some (.inl ((a4 + 5), T, M18, mc - 1, ms - 6))) else (some (.inr ((0, M18))))))))
set_option maxHeartbeats 1000000 in
theorem W_156_496 {G : kG} {d : Nat} {A : kLb → Nat} {C : kCl} {P : kO → kH → Prop} {T : kT} {M : kM} {mc ms : Nat} {h : kH} {a4 : Int32} {b5 b6 : Option Value} {z : ((Int32 × kT × kM × Nat × Nat) ⊕ (Int32 × kM))} (hC : C = kRun G (d + 56)) (R : kRl A T M h) (K : (Sum.elim (fun w : (Int32 × kT × kM × Nat × Nat) => ∀ (A : kLb → Nat) (h : kH) (b5 b6 : Option Value), kRl A w.2.1 w.2.2.1 h → kWP G 156 C P 23 [some (.ref G.1), some (.ref (A lD)), some (.ref (A lMo)), some (.ref (A lOu)), some (.int w.1), b5, b6] [] h w.2.2.2.1 w.2.2.2.2) (fun z : (Int32 × kM) => ∀ h1, P (.inl (some (.int z.1))) h1)) z) (hF : F_156_496 G a4 T M mc ms = some z) : kWP G 156 C P 496 [some (.ref G.1), some (.ref (A lD)), some (.ref (A lMo)), some (.ref (A lOu)), some (.int a4), b5, b6] [] h mc ms := by
  unfold F_156_496 at hF
  refine k_aload_n (pc := 496) i_156_496 rfl rfl ?_
  obtain ⟨r10, M11, q12, hF⟩ := kBd_el hF
  obtain ⟨g13, hF⟩ := kGd_el hF
  obtain ⟨g13a, g13b⟩ := kG2 g13
  refine kcw_I (pc := 497) (As := [.ref (A lD)]) (st := []) (A := A) (T := T) (r := r10) (M1 := M11) i_156_497 m_8_88 rfl rfl rfl (Nat.le_of_ble_eq_true rfl) (hC ▸ D_149 (d := d + 52) (Nat.le_refl _) (Nat.le_refl _) R q12) g13a g13b (fun h R => ?_)
  refine k_istore (pc := 500) (lo2 := [some (.ref G.1), some (.ref (A lD)), some (.ref (A lMo)), some (.ref (A lOu)), some (.int a4), some (.int r10), b6]) i_156_500 (Nat.le_of_ble_eq_true rfl) rfl ?_
  refine k_aload_n (pc := 502) i_156_502 rfl rfl ?_
  obtain ⟨r14, M15, q16, hF⟩ := kBd_el hF
  refine kcv_V (pc := 503) (As := [.ref (A lMo)]) (st := []) (A := A) (T := T) (r := r14) (M1 := M15) i_156_503 m_8_91 rfl rfl rfl rfl (rd_Mo R) rfl (Nat.le_of_ble_eq_true rfl) (hC ▸ D_107 (d := d + 55) R q16) (fun h R => ?_)
  refine k_aload_n (pc := 506) i_156_506 rfl rfl ?_
  obtain ⟨r17, M18, q19, hF⟩ := kBd_el hF
  refine kcv_I (pc := 507) (As := [.ref (A lMo)]) (st := []) (A := A) (T := T) (r := r17) (M1 := M18) i_156_507 m_8_67 rfl rfl rfl rfl (rd_Mo R) rfl (Nat.le_of_ble_eq_true rfl) (hC ▸ D_94 (d := d + 55) R q19) (fun h R => ?_)
  refine k_iload (pc := 510) i_156_510 rfl ?_
  refine k_icmp_eq (pc := 512) (tgt := 517) i_156_512 (by decide) (fun c20 => ?_) (fun c20 => ?_)
  · rw [if_pos c20] at hF
    refine k_goto (pc := 517) (tgt := 895) i_156_517 (by decide) ?_
    refine k_iinc (pc := 895) (v := a4 + 5) (lo2 := [some (.ref G.1), some (.ref (A lD)), some (.ref (A lMo)), some (.ref (A lOu)), some (.int (a4 + 5)), some (.int r10), b6]) i_156_895 rfl rfl rfl ?_
    refine k_goto (pc := 898) (tgt := 23) i_156_898 (by decide) ?_
    obtain rfl := Option.some.inj hF
    exact K _ _ _ _ R
  · rw [if_neg c20] at hF
    refine k_iconst (pc := 515) (v := 0) i_156_515 (by decide) ?_
    obtain rfl := Option.some.inj hF
    exact k_ireturn (pc := 516) i_156_516 rfl rfl (K _)
noncomputable def F_156_561 (G : kG) (a4 : Int32) (T : kT) (M : kM) (mc ms : Nat) : Option ((Int32 × kT × kM × Nat × Nat) ⊕ (Int32 × kM)) :=
  some (.inl ((a4 + 5), T, M, mc, ms))
set_option maxHeartbeats 1000000 in
theorem W_156_561 {G : kG} {d : Nat} {A : kLb → Nat} {C : kCl} {P : kO → kH → Prop} {T : kT} {M : kM} {mc ms : Nat} {h : kH} {a4 : Int32} {b5 b6 : Option Value} {z : ((Int32 × kT × kM × Nat × Nat) ⊕ (Int32 × kM))} (hC : C = kRun G (d + 56)) (R : kRl A T M h) (K : (Sum.elim (fun w : (Int32 × kT × kM × Nat × Nat) => ∀ (A : kLb → Nat) (h : kH) (b5 b6 : Option Value), kRl A w.2.1 w.2.2.1 h → kWP G 156 C P 23 [some (.ref G.1), some (.ref (A lD)), some (.ref (A lMo)), some (.ref (A lOu)), some (.int w.1), b5, b6] [] h w.2.2.2.1 w.2.2.2.2) (fun z : (Int32 × kM) => ∀ h1, P (.inl (some (.int z.1))) h1)) z) (hF : F_156_561 G a4 T M mc ms = some z) : kWP G 156 C P 561 [some (.ref G.1), some (.ref (A lD)), some (.ref (A lMo)), some (.ref (A lOu)), some (.int a4), b5, b6] [] h mc ms := by
  unfold F_156_561 at hF
  refine k_goto (pc := 561) (tgt := 895) i_156_561 (by decide) ?_
  refine k_iinc (pc := 895) (v := a4 + 5) (lo2 := [some (.ref G.1), some (.ref (A lD)), some (.ref (A lMo)), some (.ref (A lOu)), some (.int (a4 + 5)), b5, b6]) i_156_895 rfl rfl rfl ?_
  refine k_goto (pc := 898) (tgt := 23) i_156_898 (by decide) ?_
  obtain rfl := Option.some.inj hF
  exact K _ _ _ _ R
noncomputable def F_156_520 (G : kG) (a4 : Int32) (T : kT) (M : kM) (mc ms : Nat) : Option ((Int32 × kT × kM × Nat × Nat) ⊕ (Int32 × kM)) :=
  kBd (F_150 T  M) (fun r11 M12 => kGd (decide (1 ≤ mc) && decide (6 ≤ ms)) (kBd (F_108 T  M12) (fun r15 M16 => kBd (F_94 T  M16) (fun r18 M19 => if r18 = r11 then (if r11 = 0 then (kGx 0 1 (if (lg_cmp (go M19 (0 : Int32).toNatClampNeg) r15.toInt64) = 0 then (F_156_561 G a4 T M19 (mc - 1) (ms - 6)) else (some (.inr ((0, M19)))))) else (F_156_561 G a4 T M19 (mc - 1) (ms - 6))) else (some (.inr ((0, M19))))))))
set_option maxHeartbeats 1000000 in
theorem W_156_520 {G : kG} {d : Nat} {A : kLb → Nat} {C : kCl} {P : kO → kH → Prop} {T : kT} {M : kM} {mc ms : Nat} {h : kH} {a4 : Int32} {b5 b6 : Option Value} {z : ((Int32 × kT × kM × Nat × Nat) ⊕ (Int32 × kM))} (hC : C = kRun G (d + 56)) (R : kRl A T M h) (K : (Sum.elim (fun w : (Int32 × kT × kM × Nat × Nat) => ∀ (A : kLb → Nat) (h : kH) (b5 b6 : Option Value), kRl A w.2.1 w.2.2.1 h → kWP G 156 C P 23 [some (.ref G.1), some (.ref (A lD)), some (.ref (A lMo)), some (.ref (A lOu)), some (.int w.1), b5, b6] [] h w.2.2.2.1 w.2.2.2.2) (fun z : (Int32 × kM) => ∀ h1, P (.inl (some (.int z.1))) h1)) z) (hF : F_156_520 G a4 T M mc ms = some z) : kWP G 156 C P 520 [some (.ref G.1), some (.ref (A lD)), some (.ref (A lMo)), some (.ref (A lOu)), some (.int a4), b5, b6] [] h mc ms := by
  unfold F_156_520 at hF
  refine k_aload_n (pc := 520) i_156_520 rfl rfl ?_
  refine k_aload_n (pc := 521) i_156_521 rfl rfl ?_
  obtain ⟨r11, M12, q13, hF⟩ := kBd_el hF
  obtain ⟨g14, hF⟩ := kGd_el hF
  obtain ⟨g14a, g14b⟩ := kG2 g14
  refine kcw_I (pc := 522) (As := [.ref (A lD), .ref (A lOu)]) (st := []) (A := A) (T := T) (r := r11) (M1 := M12) i_156_522 m_8_92 rfl rfl rfl (Nat.le_of_ble_eq_true rfl) (hC ▸ D_150 (d := d + 53) (Nat.le_refl _) (Nat.le_refl _) R q13) g14a g14b (fun h R => ?_)
  refine k_istore (pc := 525) (lo2 := [some (.ref G.1), some (.ref (A lD)), some (.ref (A lMo)), some (.ref (A lOu)), some (.int a4), some (.int r11), b6]) i_156_525 (Nat.le_of_ble_eq_true rfl) rfl ?_
  refine k_aload_n (pc := 527) i_156_527 rfl rfl ?_
  obtain ⟨r15, M16, q17, hF⟩ := kBd_el hF
  refine kcv_I (pc := 528) (As := [.ref (A lMo)]) (st := []) (A := A) (T := T) (r := r15) (M1 := M16) i_156_528 m_8_95 rfl rfl rfl rfl (rd_Mo R) rfl (Nat.le_of_ble_eq_true rfl) (hC ▸ D_108 (d := d + 55) R q17) (fun h R => ?_)
  refine k_istore (pc := 531) (lo2 := [some (.ref G.1), some (.ref (A lD)), some (.ref (A lMo)), some (.ref (A lOu)), some (.int a4), some (.int r11), some (.int r15)]) i_156_531 (Nat.le_of_ble_eq_true rfl) rfl ?_
  refine k_aload_n (pc := 533) i_156_533 rfl rfl ?_
  obtain ⟨r18, M19, q20, hF⟩ := kBd_el hF
  refine kcv_I (pc := 534) (As := [.ref (A lMo)]) (st := []) (A := A) (T := T) (r := r18) (M1 := M19) i_156_534 m_8_67 rfl rfl rfl rfl (rd_Mo R) rfl (Nat.le_of_ble_eq_true rfl) (hC ▸ D_94 (d := d + 55) R q20) (fun h R => ?_)
  refine k_iload (pc := 537) i_156_537 rfl ?_
  refine k_icmp_eq (pc := 539) (tgt := 544) i_156_539 (by decide) (fun c21 => ?_) (fun c21 => ?_)
  · rw [if_pos c21] at hF
    refine k_iload (pc := 544) i_156_544 rfl ?_
    refine k_if_ne (pc := 546) (tgt := 561) i_156_546 (by decide) (fun c22 => ?_) (fun c22 => ?_)
    · rw [if_neg c22] at hF
      exact W_156_561 (d := d) hC R K hF
    · rw [if_pos c22] at hF
      refine k_aload_n (pc := 549) i_156_549 rfl rfl ?_
      refine k_iconst (pc := 550) (v := 0) i_156_550 (by decide) ?_
      obtain ⟨g23, hF⟩ := kGx_el hF
      refine k_lald (pc := 551) i_156_551 (rd_Ou R) g23 ?_
      refine k_iload (pc := 552) i_156_552 rfl ?_
      refine k_i2l (pc := 554) i_156_554 ?_
      refine k_lcmp (pc := 555) i_156_555 rfl ?_
      refine k_if_eq (pc := 556) (tgt := 561) i_156_556 (by decide) (fun c24 => ?_) (fun c24 => ?_)
      · rw [if_pos c24] at hF
        exact W_156_561 (d := d) hC R K hF
      · rw [if_neg c24] at hF
        refine k_iconst (pc := 559) (v := 0) i_156_559 (by decide) ?_
        obtain rfl := Option.some.inj hF
        exact k_ireturn (pc := 560) i_156_560 rfl rfl (K _)
  · rw [if_neg c21] at hF
    refine k_iconst (pc := 542) (v := 0) i_156_542 (by decide) ?_
    obtain rfl := Option.some.inj hF
    exact k_ireturn (pc := 543) i_156_543 rfl rfl (K _)
noncomputable def F_156_605 (G : kG) (a4 : Int32) (T : kT) (M : kM) (mc ms : Nat) : Option ((Int32 × kT × kM × Nat × Nat) ⊕ (Int32 × kM)) :=
  some (.inl ((a4 + 5), T, M, mc, ms))
set_option maxHeartbeats 1000000 in
theorem W_156_605 {G : kG} {d : Nat} {A : kLb → Nat} {C : kCl} {P : kO → kH → Prop} {T : kT} {M : kM} {mc ms : Nat} {h : kH} {a4 : Int32} {b5 b6 : Option Value} {z : ((Int32 × kT × kM × Nat × Nat) ⊕ (Int32 × kM))} (hC : C = kRun G (d + 56)) (R : kRl A T M h) (K : (Sum.elim (fun w : (Int32 × kT × kM × Nat × Nat) => ∀ (A : kLb → Nat) (h : kH) (b5 b6 : Option Value), kRl A w.2.1 w.2.2.1 h → kWP G 156 C P 23 [some (.ref G.1), some (.ref (A lD)), some (.ref (A lMo)), some (.ref (A lOu)), some (.int w.1), b5, b6] [] h w.2.2.2.1 w.2.2.2.2) (fun z : (Int32 × kM) => ∀ h1, P (.inl (some (.int z.1))) h1)) z) (hF : F_156_605 G a4 T M mc ms = some z) : kWP G 156 C P 605 [some (.ref G.1), some (.ref (A lD)), some (.ref (A lMo)), some (.ref (A lOu)), some (.int a4), b5, b6] [] h mc ms := by
  unfold F_156_605 at hF
  refine k_goto (pc := 605) (tgt := 895) i_156_605 (by decide) ?_
  refine k_iinc (pc := 895) (v := a4 + 5) (lo2 := [some (.ref G.1), some (.ref (A lD)), some (.ref (A lMo)), some (.ref (A lOu)), some (.int (a4 + 5)), b5, b6]) i_156_895 rfl rfl rfl ?_
  refine k_goto (pc := 898) (tgt := 23) i_156_898 (by decide) ?_
  obtain rfl := Option.some.inj hF
  exact K _ _ _ _ R
noncomputable def F_156_564 (G : kG) (a4 : Int32) (T : kT) (M : kM) (mc ms : Nat) : Option ((Int32 × kT × kM × Nat × Nat) ⊕ (Int32 × kM)) :=
  kBd (F_151 T  M) (fun r12 M13 => kGd (decide (1 ≤ mc) && decide (6 ≤ ms)) (kBd (F_109 T  M13) (fun r16 M17 => kBd (F_94 T  M17) (fun r19 M20 => if r19 = r12 then (if r12 = 0 then (kGx 0 1 (if (lg_cmp (go M20 (0 : Int32).toNatClampNeg) r16.toInt64) = 0 then (F_156_605 G a4 T M20 (mc - 1) (ms - 6)) else (some (.inr ((0, M20)))))) else (F_156_605 G a4 T M20 (mc - 1) (ms - 6))) else (some (.inr ((0, M20))))))))
set_option maxHeartbeats 1000000 in
theorem W_156_564 {G : kG} {d : Nat} {A : kLb → Nat} {C : kCl} {P : kO → kH → Prop} {T : kT} {M : kM} {mc ms : Nat} {h : kH} {a4 : Int32} {b5 b6 : Option Value} {z : ((Int32 × kT × kM × Nat × Nat) ⊕ (Int32 × kM))} (hC : C = kRun G (d + 56)) (R : kRl A T M h) (K : (Sum.elim (fun w : (Int32 × kT × kM × Nat × Nat) => ∀ (A : kLb → Nat) (h : kH) (b5 b6 : Option Value), kRl A w.2.1 w.2.2.1 h → kWP G 156 C P 23 [some (.ref G.1), some (.ref (A lD)), some (.ref (A lMo)), some (.ref (A lOu)), some (.int w.1), b5, b6] [] h w.2.2.2.1 w.2.2.2.2) (fun z : (Int32 × kM) => ∀ h1, P (.inl (some (.int z.1))) h1)) z) (hF : F_156_564 G a4 T M mc ms = some z) : kWP G 156 C P 564 [some (.ref G.1), some (.ref (A lD)), some (.ref (A lMo)), some (.ref (A lOu)), some (.int a4), b5, b6] [] h mc ms := by
  unfold F_156_564 at hF
  refine k_aload_n (pc := 564) i_156_564 rfl rfl ?_
  refine k_aload_n (pc := 565) i_156_565 rfl rfl ?_
  obtain ⟨r12, M13, q14, hF⟩ := kBd_el hF
  obtain ⟨g15, hF⟩ := kGd_el hF
  obtain ⟨g15a, g15b⟩ := kG2 g15
  refine kcw_I (pc := 566) (As := [.ref (A lD), .ref (A lOu)]) (st := []) (A := A) (T := T) (r := r12) (M1 := M13) i_156_566 m_8_96 rfl rfl rfl (Nat.le_of_ble_eq_true rfl) (hC ▸ D_151 (d := d + 52) (Nat.le_refl _) (Nat.le_refl _) R q14) g15a g15b (fun h R => ?_)
  refine k_istore (pc := 569) (lo2 := [some (.ref G.1), some (.ref (A lD)), some (.ref (A lMo)), some (.ref (A lOu)), some (.int a4), some (.int r12), b6]) i_156_569 (Nat.le_of_ble_eq_true rfl) rfl ?_
  refine k_aload_n (pc := 571) i_156_571 rfl rfl ?_
  obtain ⟨r16, M17, q18, hF⟩ := kBd_el hF
  refine kcv_I (pc := 572) (As := [.ref (A lMo)]) (st := []) (A := A) (T := T) (r := r16) (M1 := M17) i_156_572 m_8_98 rfl rfl rfl rfl (rd_Mo R) rfl (Nat.le_of_ble_eq_true rfl) (hC ▸ D_109 (d := d + 54) R q18) (fun h R => ?_)
  refine k_istore (pc := 575) (lo2 := [some (.ref G.1), some (.ref (A lD)), some (.ref (A lMo)), some (.ref (A lOu)), some (.int a4), some (.int r12), some (.int r16)]) i_156_575 (Nat.le_of_ble_eq_true rfl) rfl ?_
  refine k_aload_n (pc := 577) i_156_577 rfl rfl ?_
  obtain ⟨r19, M20, q21, hF⟩ := kBd_el hF
  refine kcv_I (pc := 578) (As := [.ref (A lMo)]) (st := []) (A := A) (T := T) (r := r19) (M1 := M20) i_156_578 m_8_67 rfl rfl rfl rfl (rd_Mo R) rfl (Nat.le_of_ble_eq_true rfl) (hC ▸ D_94 (d := d + 55) R q21) (fun h R => ?_)
  refine k_iload (pc := 581) i_156_581 rfl ?_
  refine k_icmp_eq (pc := 583) (tgt := 588) i_156_583 (by decide) (fun c22 => ?_) (fun c22 => ?_)
  · rw [if_pos c22] at hF
    refine k_iload (pc := 588) i_156_588 rfl ?_
    refine k_if_ne (pc := 590) (tgt := 605) i_156_590 (by decide) (fun c23 => ?_) (fun c23 => ?_)
    · rw [if_neg c23] at hF
      exact W_156_605 (d := d) hC R K hF
    · rw [if_pos c23] at hF
      refine k_aload_n (pc := 593) i_156_593 rfl rfl ?_
      refine k_iconst (pc := 594) (v := 0) i_156_594 (by decide) ?_
      obtain ⟨g24, hF⟩ := kGx_el hF
      refine k_lald (pc := 595) i_156_595 (rd_Ou R) g24 ?_
      refine k_iload (pc := 596) i_156_596 rfl ?_
      refine k_i2l (pc := 598) i_156_598 ?_
      refine k_lcmp (pc := 599) i_156_599 rfl ?_
      refine k_if_eq (pc := 600) (tgt := 605) i_156_600 (by decide) (fun c25 => ?_) (fun c25 => ?_)
      · rw [if_pos c25] at hF
        exact W_156_605 (d := d) hC R K hF
      · rw [if_neg c25] at hF
        refine k_iconst (pc := 603) (v := 0) i_156_603 (by decide) ?_
        obtain rfl := Option.some.inj hF
        exact k_ireturn (pc := 604) i_156_604 rfl rfl (K _)
  · rw [if_neg c22] at hF
    refine k_iconst (pc := 586) (v := 0) i_156_586 (by decide) ?_
    obtain rfl := Option.some.inj hF
    exact k_ireturn (pc := 587) i_156_587 rfl rfl (K _)
noncomputable def F_156_685 (G : kG) (a4 : Int32) (T : kT) (M : kM) (mc ms : Nat) : Option ((Int32 × kT × kM × Nat × Nat) ⊕ (Int32 × kM)) :=
  some (.inl ((a4 + 5), T, M, mc, ms))
set_option maxHeartbeats 1000000 in
theorem W_156_685 {G : kG} {d : Nat} {A : kLb → Nat} {C : kCl} {P : kO → kH → Prop} {T : kT} {M : kM} {mc ms : Nat} {h : kH} {a4 : Int32} {b5 b6 : Option Value} {z : ((Int32 × kT × kM × Nat × Nat) ⊕ (Int32 × kM))} (hC : C = kRun G (d + 56)) (R : kRl A T M h) (K : (Sum.elim (fun w : (Int32 × kT × kM × Nat × Nat) => ∀ (A : kLb → Nat) (h : kH) (b5 b6 : Option Value), kRl A w.2.1 w.2.2.1 h → kWP G 156 C P 23 [some (.ref G.1), some (.ref (A lD)), some (.ref (A lMo)), some (.ref (A lOu)), some (.int w.1), b5, b6] [] h w.2.2.2.1 w.2.2.2.2) (fun z : (Int32 × kM) => ∀ h1, P (.inl (some (.int z.1))) h1)) z) (hF : F_156_685 G a4 T M mc ms = some z) : kWP G 156 C P 685 [some (.ref G.1), some (.ref (A lD)), some (.ref (A lMo)), some (.ref (A lOu)), some (.int a4), b5, b6] [] h mc ms := by
  unfold F_156_685 at hF
  refine k_goto (pc := 685) (tgt := 895) i_156_685 (by decide) ?_
  refine k_iinc (pc := 895) (v := a4 + 5) (lo2 := [some (.ref G.1), some (.ref (A lD)), some (.ref (A lMo)), some (.ref (A lOu)), some (.int (a4 + 5)), b5, b6]) i_156_895 rfl rfl rfl ?_
  refine k_goto (pc := 898) (tgt := 23) i_156_898 (by decide) ?_
  obtain rfl := Option.some.inj hF
  exact K _ _ _ _ R
noncomputable def F_156_608 (G : kG) (a4 : Int32) (T : kT) (M : kM) (mc ms : Nat) : Option ((Int32 × kT × kM × Nat × Nat) ⊕ (Int32 × kM)) :=
  kGx (a4 + 1) G.2.1 (kGx (a4 + 2) G.2.1 (kGx (a4 + 3) G.2.1 (kBd (F_152 T (G.2.2 (a4 + 1).toNatClampNeg) (G.2.2 (a4 + 2).toNatClampNeg) (G.2.2 (a4 + 3).toNatClampNeg) M) (fun r16 M17 => kGd (decide (1 ≤ mc) && decide (6 ≤ ms)) (kGx (a4 + 1) G.2.1 (kGx (a4 + 2) G.2.1 (kGx (a4 + 3) G.2.1 (kBd (F_110 T (G.2.2 (a4 + 1).toNatClampNeg) (G.2.2 (a4 + 2).toNatClampNeg) (G.2.2 (a4 + 3).toNatClampNeg) M17) (fun r23 M24 => kBd (F_94 T  M24) (fun r26 M27 => if r26 = r16 then (if r16 = 0 then (kGx 0 1 (if (lg_cmp (go M27 (0 : Int32).toNatClampNeg) r23.toInt64) = 0 then (F_156_685 G a4 T M27 (mc - 1) (ms - 6)) else (some (.inr ((0, M27)))))) else (F_156_685 G a4 T M27 (mc - 1) (ms - 6))) else (some (.inr ((0, M27))))))))))))))
set_option maxHeartbeats 1000000 in
theorem W_156_608 {G : kG} {d : Nat} {A : kLb → Nat} {C : kCl} {P : kO → kH → Prop} {T : kT} {M : kM} {mc ms : Nat} {h : kH} {a4 : Int32} {b5 b6 : Option Value} {z : ((Int32 × kT × kM × Nat × Nat) ⊕ (Int32 × kM))} (hC : C = kRun G (d + 56)) (R : kRl A T M h) (K : (Sum.elim (fun w : (Int32 × kT × kM × Nat × Nat) => ∀ (A : kLb → Nat) (h : kH) (b5 b6 : Option Value), kRl A w.2.1 w.2.2.1 h → kWP G 156 C P 23 [some (.ref G.1), some (.ref (A lD)), some (.ref (A lMo)), some (.ref (A lOu)), some (.int w.1), b5, b6] [] h w.2.2.2.1 w.2.2.2.2) (fun z : (Int32 × kM) => ∀ h1, P (.inl (some (.int z.1))) h1)) z) (hF : F_156_608 G a4 T M mc ms = some z) : kWP G 156 C P 608 [some (.ref G.1), some (.ref (A lD)), some (.ref (A lMo)), some (.ref (A lOu)), some (.int a4), b5, b6] [] h mc ms := by
  unfold F_156_608 at hF
  refine k_aload_n (pc := 608) i_156_608 rfl rfl ?_
  refine k_aload_n (pc := 609) i_156_609 rfl rfl ?_
  refine k_iload (pc := 610) i_156_610 rfl ?_
  refine k_iconst (pc := 612) (v := 1) i_156_612 (by decide) ?_
  refine k_iadd (pc := 613) i_156_613 ?_
  obtain ⟨g13, hF⟩ := kGx_el hF
  refine k_sald (pc := 614) i_156_614 g13 ?_
  refine k_aload_n (pc := 615) i_156_615 rfl rfl ?_
  refine k_iload (pc := 616) i_156_616 rfl ?_
  refine k_iconst (pc := 618) (v := 2) i_156_618 (by decide) ?_
  refine k_iadd (pc := 619) i_156_619 ?_
  obtain ⟨g14, hF⟩ := kGx_el hF
  refine k_sald (pc := 620) i_156_620 g14 ?_
  refine k_aload_n (pc := 621) i_156_621 rfl rfl ?_
  refine k_iload (pc := 622) i_156_622 rfl ?_
  refine k_iconst (pc := 624) (v := 3) i_156_624 (by decide) ?_
  refine k_iadd (pc := 625) i_156_625 ?_
  obtain ⟨g15, hF⟩ := kGx_el hF
  refine k_sald (pc := 626) i_156_626 g15 ?_
  refine k_aload_n (pc := 627) i_156_627 rfl rfl ?_
  obtain ⟨r16, M17, q18, hF⟩ := kBd_el hF
  obtain ⟨g19, hF⟩ := kGd_el hF
  obtain ⟨g19a, g19b⟩ := kG2 g19
  refine kcw_I (pc := 628) (As := [.ref (A lD), .int (G.2.2 (a4 + 1).toNatClampNeg), .int (G.2.2 (a4 + 2).toNatClampNeg), .int (G.2.2 (a4 + 3).toNatClampNeg), .ref (A lOu)]) (st := []) (A := A) (T := T) (r := r16) (M1 := M17) i_156_628 m_8_99 rfl rfl rfl (Nat.le_of_ble_eq_true rfl) (hC ▸ D_152 (d := d + 52) (Nat.le_refl _) (Nat.le_refl _) R q18) g19a g19b (fun h R => ?_)
  refine k_istore (pc := 631) (lo2 := [some (.ref G.1), some (.ref (A lD)), some (.ref (A lMo)), some (.ref (A lOu)), some (.int a4), some (.int r16), b6]) i_156_631 (Nat.le_of_ble_eq_true rfl) rfl ?_
  refine k_aload_n (pc := 633) i_156_633 rfl rfl ?_
  refine k_aload_n (pc := 634) i_156_634 rfl rfl ?_
  refine k_iload (pc := 635) i_156_635 rfl ?_
  refine k_iconst (pc := 637) (v := 1) i_156_637 (by decide) ?_
  refine k_iadd (pc := 638) i_156_638 ?_
  obtain ⟨g20, hF⟩ := kGx_el hF
  refine k_sald (pc := 639) i_156_639 g20 ?_
  refine k_aload_n (pc := 640) i_156_640 rfl rfl ?_
  refine k_iload (pc := 641) i_156_641 rfl ?_
  refine k_iconst (pc := 643) (v := 2) i_156_643 (by decide) ?_
  refine k_iadd (pc := 644) i_156_644 ?_
  obtain ⟨g21, hF⟩ := kGx_el hF
  refine k_sald (pc := 645) i_156_645 g21 ?_
  refine k_aload_n (pc := 646) i_156_646 rfl rfl ?_
  refine k_iload (pc := 647) i_156_647 rfl ?_
  refine k_iconst (pc := 649) (v := 3) i_156_649 (by decide) ?_
  refine k_iadd (pc := 650) i_156_650 ?_
  obtain ⟨g22, hF⟩ := kGx_el hF
  refine k_sald (pc := 651) i_156_651 g22 ?_
  obtain ⟨r23, M24, q25, hF⟩ := kBd_el hF
  refine kcv_I (pc := 652) (As := [.ref (A lMo), .int (G.2.2 (a4 + 1).toNatClampNeg), .int (G.2.2 (a4 + 2).toNatClampNeg), .int (G.2.2 (a4 + 3).toNatClampNeg)]) (st := []) (A := A) (T := T) (r := r23) (M1 := M24) i_156_652 m_8_101 rfl rfl rfl rfl (rd_Mo R) rfl (Nat.le_of_ble_eq_true rfl) (hC ▸ D_110 (d := d + 52) R q25) (fun h R => ?_)
  refine k_istore (pc := 655) (lo2 := [some (.ref G.1), some (.ref (A lD)), some (.ref (A lMo)), some (.ref (A lOu)), some (.int a4), some (.int r16), some (.int r23)]) i_156_655 (Nat.le_of_ble_eq_true rfl) rfl ?_
  refine k_aload_n (pc := 657) i_156_657 rfl rfl ?_
  obtain ⟨r26, M27, q28, hF⟩ := kBd_el hF
  refine kcv_I (pc := 658) (As := [.ref (A lMo)]) (st := []) (A := A) (T := T) (r := r26) (M1 := M27) i_156_658 m_8_67 rfl rfl rfl rfl (rd_Mo R) rfl (Nat.le_of_ble_eq_true rfl) (hC ▸ D_94 (d := d + 55) R q28) (fun h R => ?_)
  refine k_iload (pc := 661) i_156_661 rfl ?_
  refine k_icmp_eq (pc := 663) (tgt := 668) i_156_663 (by decide) (fun c29 => ?_) (fun c29 => ?_)
  · rw [if_pos c29] at hF
    refine k_iload (pc := 668) i_156_668 rfl ?_
    refine k_if_ne (pc := 670) (tgt := 685) i_156_670 (by decide) (fun c30 => ?_) (fun c30 => ?_)
    · rw [if_neg c30] at hF
      exact W_156_685 (d := d) hC R K hF
    · rw [if_pos c30] at hF
      refine k_aload_n (pc := 673) i_156_673 rfl rfl ?_
      refine k_iconst (pc := 674) (v := 0) i_156_674 (by decide) ?_
      obtain ⟨g31, hF⟩ := kGx_el hF
      refine k_lald (pc := 675) i_156_675 (rd_Ou R) g31 ?_
      refine k_iload (pc := 676) i_156_676 rfl ?_
      refine k_i2l (pc := 678) i_156_678 ?_
      refine k_lcmp (pc := 679) i_156_679 rfl ?_
      refine k_if_eq (pc := 680) (tgt := 685) i_156_680 (by decide) (fun c32 => ?_) (fun c32 => ?_)
      · rw [if_pos c32] at hF
        exact W_156_685 (d := d) hC R K hF
      · rw [if_neg c32] at hF
        refine k_iconst (pc := 683) (v := 0) i_156_683 (by decide) ?_
        obtain rfl := Option.some.inj hF
        exact k_ireturn (pc := 684) i_156_684 rfl rfl (K _)
  · rw [if_neg c29] at hF
    refine k_iconst (pc := 666) (v := 0) i_156_666 (by decide) ?_
    obtain rfl := Option.some.inj hF
    exact k_ireturn (pc := 667) i_156_667 rfl rfl (K _)
noncomputable def F_156_741 (G : kG) (a4 : Int32) (T : kT) (M : kM) (mc ms : Nat) : Option ((Int32 × kT × kM × Nat × Nat) ⊕ (Int32 × kM)) :=
  some (.inl ((a4 + 5), T, M, mc, ms))
set_option maxHeartbeats 1000000 in
theorem W_156_741 {G : kG} {d : Nat} {A : kLb → Nat} {C : kCl} {P : kO → kH → Prop} {T : kT} {M : kM} {mc ms : Nat} {h : kH} {a4 : Int32} {b5 b6 : Option Value} {z : ((Int32 × kT × kM × Nat × Nat) ⊕ (Int32 × kM))} (hC : C = kRun G (d + 56)) (R : kRl A T M h) (K : (Sum.elim (fun w : (Int32 × kT × kM × Nat × Nat) => ∀ (A : kLb → Nat) (h : kH) (b5 b6 : Option Value), kRl A w.2.1 w.2.2.1 h → kWP G 156 C P 23 [some (.ref G.1), some (.ref (A lD)), some (.ref (A lMo)), some (.ref (A lOu)), some (.int w.1), b5, b6] [] h w.2.2.2.1 w.2.2.2.2) (fun z : (Int32 × kM) => ∀ h1, P (.inl (some (.int z.1))) h1)) z) (hF : F_156_741 G a4 T M mc ms = some z) : kWP G 156 C P 741 [some (.ref G.1), some (.ref (A lD)), some (.ref (A lMo)), some (.ref (A lOu)), some (.int a4), b5, b6] [] h mc ms := by
  unfold F_156_741 at hF
  refine k_goto (pc := 741) (tgt := 895) i_156_741 (by decide) ?_
  refine k_iinc (pc := 895) (v := a4 + 5) (lo2 := [some (.ref G.1), some (.ref (A lD)), some (.ref (A lMo)), some (.ref (A lOu)), some (.int (a4 + 5)), b5, b6]) i_156_895 rfl rfl rfl ?_
  refine k_goto (pc := 898) (tgt := 23) i_156_898 (by decide) ?_
  obtain rfl := Option.some.inj hF
  exact K _ _ _ _ R
noncomputable def F_156_688 (G : kG) (a4 : Int32) (T : kT) (M : kM) (mc ms : Nat) : Option ((Int32 × kT × kM × Nat × Nat) ⊕ (Int32 × kM)) :=
  kGx (a4 + 1) G.2.1 (kBd (F_153 T (G.2.2 (a4 + 1).toNatClampNeg) M) (fun r15 M16 => kGd (decide (1 ≤ mc) && decide (6 ≤ ms)) (kGx (a4 + 1) G.2.1 (kBd (F_111 T (G.2.2 (a4 + 1).toNatClampNeg) M16) (fun r20 M21 => kBd (F_94 T  M21) (fun r23 M24 => if r23 = r15 then (if r15 = 0 then (kGx 0 1 (if (lg_cmp (go M24 (0 : Int32).toNatClampNeg) r20.toInt64) = 0 then (F_156_741 G a4 T M24 (mc - 1) (ms - 6)) else (some (.inr ((0, M24)))))) else (F_156_741 G a4 T M24 (mc - 1) (ms - 6))) else (some (.inr ((0, M24))))))))))
set_option maxHeartbeats 1000000 in
theorem W_156_688 {G : kG} {d : Nat} {A : kLb → Nat} {C : kCl} {P : kO → kH → Prop} {T : kT} {M : kM} {mc ms : Nat} {h : kH} {a4 : Int32} {b5 b6 : Option Value} {z : ((Int32 × kT × kM × Nat × Nat) ⊕ (Int32 × kM))} (hC : C = kRun G (d + 56)) (R : kRl A T M h) (K : (Sum.elim (fun w : (Int32 × kT × kM × Nat × Nat) => ∀ (A : kLb → Nat) (h : kH) (b5 b6 : Option Value), kRl A w.2.1 w.2.2.1 h → kWP G 156 C P 23 [some (.ref G.1), some (.ref (A lD)), some (.ref (A lMo)), some (.ref (A lOu)), some (.int w.1), b5, b6] [] h w.2.2.2.1 w.2.2.2.2) (fun z : (Int32 × kM) => ∀ h1, P (.inl (some (.int z.1))) h1)) z) (hF : F_156_688 G a4 T M mc ms = some z) : kWP G 156 C P 688 [some (.ref G.1), some (.ref (A lD)), some (.ref (A lMo)), some (.ref (A lOu)), some (.int a4), b5, b6] [] h mc ms := by
  unfold F_156_688 at hF
  refine k_aload_n (pc := 688) i_156_688 rfl rfl ?_
  refine k_aload_n (pc := 689) i_156_689 rfl rfl ?_
  refine k_iload (pc := 690) i_156_690 rfl ?_
  refine k_iconst (pc := 692) (v := 1) i_156_692 (by decide) ?_
  refine k_iadd (pc := 693) i_156_693 ?_
  obtain ⟨g14, hF⟩ := kGx_el hF
  refine k_sald (pc := 694) i_156_694 g14 ?_
  refine k_aload_n (pc := 695) i_156_695 rfl rfl ?_
  obtain ⟨r15, M16, q17, hF⟩ := kBd_el hF
  obtain ⟨g18, hF⟩ := kGd_el hF
  obtain ⟨g18a, g18b⟩ := kG2 g18
  refine kcw_I (pc := 696) (As := [.ref (A lD), .int (G.2.2 (a4 + 1).toNatClampNeg), .ref (A lOu)]) (st := []) (A := A) (T := T) (r := r15) (M1 := M16) i_156_696 m_8_102 rfl rfl rfl (Nat.le_of_ble_eq_true rfl) (hC ▸ D_153 (d := d + 53) (Nat.le_refl _) (Nat.le_refl _) R q17) g18a g18b (fun h R => ?_)
  refine k_istore (pc := 699) (lo2 := [some (.ref G.1), some (.ref (A lD)), some (.ref (A lMo)), some (.ref (A lOu)), some (.int a4), some (.int r15), b6]) i_156_699 (Nat.le_of_ble_eq_true rfl) rfl ?_
  refine k_aload_n (pc := 701) i_156_701 rfl rfl ?_
  refine k_aload_n (pc := 702) i_156_702 rfl rfl ?_
  refine k_iload (pc := 703) i_156_703 rfl ?_
  refine k_iconst (pc := 705) (v := 1) i_156_705 (by decide) ?_
  refine k_iadd (pc := 706) i_156_706 ?_
  obtain ⟨g19, hF⟩ := kGx_el hF
  refine k_sald (pc := 707) i_156_707 g19 ?_
  obtain ⟨r20, M21, q22, hF⟩ := kBd_el hF
  refine kcv_I (pc := 708) (As := [.ref (A lMo), .int (G.2.2 (a4 + 1).toNatClampNeg)]) (st := []) (A := A) (T := T) (r := r20) (M1 := M21) i_156_708 m_8_104 rfl rfl rfl rfl (rd_Mo R) rfl (Nat.le_of_ble_eq_true rfl) (hC ▸ D_111 (d := d + 55) R q22) (fun h R => ?_)
  refine k_istore (pc := 711) (lo2 := [some (.ref G.1), some (.ref (A lD)), some (.ref (A lMo)), some (.ref (A lOu)), some (.int a4), some (.int r15), some (.int r20)]) i_156_711 (Nat.le_of_ble_eq_true rfl) rfl ?_
  refine k_aload_n (pc := 713) i_156_713 rfl rfl ?_
  obtain ⟨r23, M24, q25, hF⟩ := kBd_el hF
  refine kcv_I (pc := 714) (As := [.ref (A lMo)]) (st := []) (A := A) (T := T) (r := r23) (M1 := M24) i_156_714 m_8_67 rfl rfl rfl rfl (rd_Mo R) rfl (Nat.le_of_ble_eq_true rfl) (hC ▸ D_94 (d := d + 55) R q25) (fun h R => ?_)
  refine k_iload (pc := 717) i_156_717 rfl ?_
  refine k_icmp_eq (pc := 719) (tgt := 724) i_156_719 (by decide) (fun c26 => ?_) (fun c26 => ?_)
  · rw [if_pos c26] at hF
    refine k_iload (pc := 724) i_156_724 rfl ?_
    refine k_if_ne (pc := 726) (tgt := 741) i_156_726 (by decide) (fun c27 => ?_) (fun c27 => ?_)
    · rw [if_neg c27] at hF
      exact W_156_741 (d := d) hC R K hF
    · rw [if_pos c27] at hF
      refine k_aload_n (pc := 729) i_156_729 rfl rfl ?_
      refine k_iconst (pc := 730) (v := 0) i_156_730 (by decide) ?_
      obtain ⟨g28, hF⟩ := kGx_el hF
      refine k_lald (pc := 731) i_156_731 (rd_Ou R) g28 ?_
      refine k_iload (pc := 732) i_156_732 rfl ?_
      refine k_i2l (pc := 734) i_156_734 ?_
      refine k_lcmp (pc := 735) i_156_735 rfl ?_
      refine k_if_eq (pc := 736) (tgt := 741) i_156_736 (by decide) (fun c29 => ?_) (fun c29 => ?_)
      · rw [if_pos c29] at hF
        exact W_156_741 (d := d) hC R K hF
      · rw [if_neg c29] at hF
        refine k_iconst (pc := 739) (v := 0) i_156_739 (by decide) ?_
        obtain rfl := Option.some.inj hF
        exact k_ireturn (pc := 740) i_156_740 rfl rfl (K _)
  · rw [if_neg c26] at hF
    refine k_iconst (pc := 722) (v := 0) i_156_722 (by decide) ?_
    obtain rfl := Option.some.inj hF
    exact k_ireturn (pc := 723) i_156_723 rfl rfl (K _)
noncomputable def F_156_785 (G : kG) (a4 : Int32) (T : kT) (M : kM) (mc ms : Nat) : Option ((Int32 × kT × kM × Nat × Nat) ⊕ (Int32 × kM)) :=
  some (.inl ((a4 + 5), T, M, mc, ms))
set_option maxHeartbeats 1000000 in
theorem W_156_785 {G : kG} {d : Nat} {A : kLb → Nat} {C : kCl} {P : kO → kH → Prop} {T : kT} {M : kM} {mc ms : Nat} {h : kH} {a4 : Int32} {b5 b6 : Option Value} {z : ((Int32 × kT × kM × Nat × Nat) ⊕ (Int32 × kM))} (hC : C = kRun G (d + 56)) (R : kRl A T M h) (K : (Sum.elim (fun w : (Int32 × kT × kM × Nat × Nat) => ∀ (A : kLb → Nat) (h : kH) (b5 b6 : Option Value), kRl A w.2.1 w.2.2.1 h → kWP G 156 C P 23 [some (.ref G.1), some (.ref (A lD)), some (.ref (A lMo)), some (.ref (A lOu)), some (.int w.1), b5, b6] [] h w.2.2.2.1 w.2.2.2.2) (fun z : (Int32 × kM) => ∀ h1, P (.inl (some (.int z.1))) h1)) z) (hF : F_156_785 G a4 T M mc ms = some z) : kWP G 156 C P 785 [some (.ref G.1), some (.ref (A lD)), some (.ref (A lMo)), some (.ref (A lOu)), some (.int a4), b5, b6] [] h mc ms := by
  unfold F_156_785 at hF
  refine k_goto (pc := 785) (tgt := 895) i_156_785 (by decide) ?_
  refine k_iinc (pc := 895) (v := a4 + 5) (lo2 := [some (.ref G.1), some (.ref (A lD)), some (.ref (A lMo)), some (.ref (A lOu)), some (.int (a4 + 5)), b5, b6]) i_156_895 rfl rfl rfl ?_
  refine k_goto (pc := 898) (tgt := 23) i_156_898 (by decide) ?_
  obtain rfl := Option.some.inj hF
  exact K _ _ _ _ R
noncomputable def F_156_744 (G : kG) (a4 : Int32) (T : kT) (M : kM) (mc ms : Nat) : Option ((Int32 × kT × kM × Nat × Nat) ⊕ (Int32 × kM)) :=
  kBt (F_154 T  M) (fun r15 T19 M16 => kGd (decide (kCc T T19 + 1 ≤ mc) && decide (kCs T T19 + 6 ≤ ms)) (kBd (F_120 T19  M16) (fun r20 M21 => kBd (F_94 T19  M21) (fun r23 M24 => if r23 = r15 then (if r15 = 0 then (kGx 0 1 (if (lg_cmp (go M24 (0 : Int32).toNatClampNeg) r20.toInt64) = 0 then (F_156_785 G a4 T19 M24 (mc - (kCc T T19 + 1)) (ms - (kCs T T19 + 6))) else (some (.inr ((0, M24)))))) else (F_156_785 G a4 T19 M24 (mc - (kCc T T19 + 1)) (ms - (kCs T T19 + 6)))) else (some (.inr ((0, M24))))))))
set_option maxHeartbeats 1000000 in
theorem W_156_744 {G : kG} {d : Nat} {A : kLb → Nat} {C : kCl} {P : kO → kH → Prop} {T : kT} {M : kM} {mc ms : Nat} {h : kH} {a4 : Int32} {b5 b6 : Option Value} {z : ((Int32 × kT × kM × Nat × Nat) ⊕ (Int32 × kM))} (hC : C = kRun G (d + 56)) (R : kRl A T M h) (K : (Sum.elim (fun w : (Int32 × kT × kM × Nat × Nat) => ∀ (A : kLb → Nat) (h : kH) (b5 b6 : Option Value), kRl A w.2.1 w.2.2.1 h → kWP G 156 C P 23 [some (.ref G.1), some (.ref (A lD)), some (.ref (A lMo)), some (.ref (A lOu)), some (.int w.1), b5, b6] [] h w.2.2.2.1 w.2.2.2.2) (fun z : (Int32 × kM) => ∀ h1, P (.inl (some (.int z.1))) h1)) z) (hF : F_156_744 G a4 T M mc ms = some z) : kWP G 156 C P 744 [some (.ref G.1), some (.ref (A lD)), some (.ref (A lMo)), some (.ref (A lOu)), some (.int a4), b5, b6] [] h mc ms := by
  unfold F_156_744 at hF
  refine k_aload_n (pc := 744) i_156_744 rfl rfl ?_
  refine k_aload_n (pc := 745) i_156_745 rfl rfl ?_
  obtain ⟨r15, T19, M16, q17, hF⟩ := kBt_el hF
  obtain ⟨g18, hF⟩ := kGd_el hF
  obtain ⟨g18a, g18b⟩ := kG2 g18
  refine kcwa_I (pc := 746) (As := [.ref (A lD), .ref (A lOu)]) (st := []) (A := A) (T := T) (T1 := T19) (r := r15) (M1 := M16) i_156_746 m_8_105 rfl rfl rfl (Nat.le_of_ble_eq_true rfl) (hC ▸ D_154 (d := d + 33) (Nat.le_refl _) (Nat.le_refl _) R q17) g18a g18b (fun A h R xA => ?_)
  rw [← xA lD rfl]
  rw [← xA lMo rfl]
  rw [← xA lOu rfl]
  refine k_istore (pc := 749) (lo2 := [some (.ref G.1), some (.ref (A lD)), some (.ref (A lMo)), some (.ref (A lOu)), some (.int a4), some (.int r15), b6]) i_156_749 (Nat.le_of_ble_eq_true rfl) rfl ?_
  refine k_aload_n (pc := 751) i_156_751 rfl rfl ?_
  obtain ⟨r20, M21, q22, hF⟩ := kBd_el hF
  refine kcv_I (pc := 752) (As := [.ref (A lMo)]) (st := []) (A := A) (T := T19) (r := r20) (M1 := M21) i_156_752 m_8_107 rfl rfl rfl rfl (rd_Mo R) rfl (Nat.le_of_ble_eq_true rfl) (hC ▸ D_120 (d := d + 50) R q22) (fun h R => ?_)
  refine k_istore (pc := 755) (lo2 := [some (.ref G.1), some (.ref (A lD)), some (.ref (A lMo)), some (.ref (A lOu)), some (.int a4), some (.int r15), some (.int r20)]) i_156_755 (Nat.le_of_ble_eq_true rfl) rfl ?_
  refine k_aload_n (pc := 757) i_156_757 rfl rfl ?_
  obtain ⟨r23, M24, q25, hF⟩ := kBd_el hF
  refine kcv_I (pc := 758) (As := [.ref (A lMo)]) (st := []) (A := A) (T := T19) (r := r23) (M1 := M24) i_156_758 m_8_67 rfl rfl rfl rfl (rd_Mo R) rfl (Nat.le_of_ble_eq_true rfl) (hC ▸ D_94 (d := d + 55) R q25) (fun h R => ?_)
  refine k_iload (pc := 761) i_156_761 rfl ?_
  refine k_icmp_eq (pc := 763) (tgt := 768) i_156_763 (by decide) (fun c26 => ?_) (fun c26 => ?_)
  · rw [if_pos c26] at hF
    refine k_iload (pc := 768) i_156_768 rfl ?_
    refine k_if_ne (pc := 770) (tgt := 785) i_156_770 (by decide) (fun c27 => ?_) (fun c27 => ?_)
    · rw [if_neg c27] at hF
      exact W_156_785 (d := d) hC R K hF
    · rw [if_pos c27] at hF
      refine k_aload_n (pc := 773) i_156_773 rfl rfl ?_
      refine k_iconst (pc := 774) (v := 0) i_156_774 (by decide) ?_
      obtain ⟨g28, hF⟩ := kGx_el hF
      refine k_lald (pc := 775) i_156_775 (rd_Ou R) g28 ?_
      refine k_iload (pc := 776) i_156_776 rfl ?_
      refine k_i2l (pc := 778) i_156_778 ?_
      refine k_lcmp (pc := 779) i_156_779 rfl ?_
      refine k_if_eq (pc := 780) (tgt := 785) i_156_780 (by decide) (fun c29 => ?_) (fun c29 => ?_)
      · rw [if_pos c29] at hF
        exact W_156_785 (d := d) hC R K hF
      · rw [if_neg c29] at hF
        refine k_iconst (pc := 783) (v := 0) i_156_783 (by decide) ?_
        obtain rfl := Option.some.inj hF
        exact k_ireturn (pc := 784) i_156_784 rfl rfl (K _)
  · rw [if_neg c26] at hF
    refine k_iconst (pc := 766) (v := 0) i_156_766 (by decide) ?_
    obtain rfl := Option.some.inj hF
    exact k_ireturn (pc := 767) i_156_767 rfl rfl (K _)
noncomputable def F_156_788 (G : kG) (a4 : Int32) (T : kT) (M : kM) (mc ms : Nat) : Option ((Int32 × kT × kM × Nat × Nat) ⊕ (Int32 × kM)) :=
  kBd (F_13 T  M) (fun r16 M17 => kBd (F_121 T  M17) (fun r19 M20 => if r16 = r19 then (some (.inl ((a4 + 5), T, M20, mc, ms))) else (some (.inr ((0, M20))))))
set_option maxHeartbeats 1000000 in
theorem W_156_788 {G : kG} {d : Nat} {A : kLb → Nat} {C : kCl} {P : kO → kH → Prop} {T : kT} {M : kM} {mc ms : Nat} {h : kH} {a4 : Int32} {b5 b6 : Option Value} {z : ((Int32 × kT × kM × Nat × Nat) ⊕ (Int32 × kM))} (hC : C = kRun G (d + 56)) (R : kRl A T M h) (K : (Sum.elim (fun w : (Int32 × kT × kM × Nat × Nat) => ∀ (A : kLb → Nat) (h : kH) (b5 b6 : Option Value), kRl A w.2.1 w.2.2.1 h → kWP G 156 C P 23 [some (.ref G.1), some (.ref (A lD)), some (.ref (A lMo)), some (.ref (A lOu)), some (.int w.1), b5, b6] [] h w.2.2.2.1 w.2.2.2.2) (fun z : (Int32 × kM) => ∀ h1, P (.inl (some (.int z.1))) h1)) z) (hF : F_156_788 G a4 T M mc ms = some z) : kWP G 156 C P 788 [some (.ref G.1), some (.ref (A lD)), some (.ref (A lMo)), some (.ref (A lOu)), some (.int a4), b5, b6] [] h mc ms := by
  unfold F_156_788 at hF
  refine k_aload_n (pc := 788) i_156_788 rfl rfl ?_
  obtain ⟨r16, M17, q18, hF⟩ := kBd_el hF
  refine kcv_I (pc := 789) (As := [.ref (A lD)]) (st := []) (A := A) (T := T) (r := r16) (M1 := M17) i_156_789 m_8_108 rfl rfl rfl rfl (rd_D R) rfl (Nat.le_of_ble_eq_true rfl) (hC ▸ D_13 (d := d + 55) R q18) (fun h R => ?_)
  refine k_aload_n (pc := 792) i_156_792 rfl rfl ?_
  obtain ⟨r19, M20, q21, hF⟩ := kBd_el hF
  refine kcv_I (pc := 793) (As := [.ref (A lMo)]) (st := [.int r16]) (A := A) (T := T) (r := r19) (M1 := M20) i_156_793 m_8_111 rfl rfl rfl rfl (rd_Mo R) rfl (Nat.le_of_ble_eq_true rfl) (hC ▸ D_121 (d := d + 55) R q21) (fun h R => ?_)
  refine k_icmp_eq (pc := 796) (tgt := 895) i_156_796 (by decide) (fun c22 => ?_) (fun c22 => ?_)
  · rw [if_pos c22] at hF
    refine k_iinc (pc := 895) (v := a4 + 5) (lo2 := [some (.ref G.1), some (.ref (A lD)), some (.ref (A lMo)), some (.ref (A lOu)), some (.int (a4 + 5)), b5, b6]) i_156_895 rfl rfl rfl ?_
    refine k_goto (pc := 898) (tgt := 23) i_156_898 (by decide) ?_
    obtain rfl := Option.some.inj hF
    exact K _ _ _ _ R
  · rw [if_neg c22] at hF
    refine k_iconst (pc := 799) (v := 0) i_156_799 (by decide) ?_
    obtain rfl := Option.some.inj hF
    exact k_ireturn (pc := 800) i_156_800 rfl rfl (K _)
noncomputable def F_156_854 (G : kG) (a4 : Int32) (T : kT) (M : kM) (mc ms : Nat) : Option ((Int32 × kT × kM × Nat × Nat) ⊕ (Int32 × kM)) :=
  some (.inl ((a4 + 5), T, M, mc, ms))
set_option maxHeartbeats 1000000 in
theorem W_156_854 {G : kG} {d : Nat} {A : kLb → Nat} {C : kCl} {P : kO → kH → Prop} {T : kT} {M : kM} {mc ms : Nat} {h : kH} {a4 : Int32} {b5 b6 : Option Value} {z : ((Int32 × kT × kM × Nat × Nat) ⊕ (Int32 × kM))} (hC : C = kRun G (d + 56)) (R : kRl A T M h) (K : (Sum.elim (fun w : (Int32 × kT × kM × Nat × Nat) => ∀ (A : kLb → Nat) (h : kH) (b5 b6 : Option Value), kRl A w.2.1 w.2.2.1 h → kWP G 156 C P 23 [some (.ref G.1), some (.ref (A lD)), some (.ref (A lMo)), some (.ref (A lOu)), some (.int w.1), b5, b6] [] h w.2.2.2.1 w.2.2.2.2) (fun z : (Int32 × kM) => ∀ h1, P (.inl (some (.int z.1))) h1)) z) (hF : F_156_854 G a4 T M mc ms = some z) : kWP G 156 C P 854 [some (.ref G.1), some (.ref (A lD)), some (.ref (A lMo)), some (.ref (A lOu)), some (.int a4), b5, b6] [] h mc ms := by
  unfold F_156_854 at hF
  refine k_goto (pc := 854) (tgt := 895) i_156_854 (by decide) ?_
  refine k_iinc (pc := 895) (v := a4 + 5) (lo2 := [some (.ref G.1), some (.ref (A lD)), some (.ref (A lMo)), some (.ref (A lOu)), some (.int (a4 + 5)), b5, b6]) i_156_895 rfl rfl rfl ?_
  refine k_goto (pc := 898) (tgt := 23) i_156_898 (by decide) ?_
  obtain rfl := Option.some.inj hF
  exact K _ _ _ _ R
noncomputable def F_156_801 (G : kG) (a4 : Int32) (T : kT) (M : kM) (mc ms : Nat) : Option ((Int32 × kT × kM × Nat × Nat) ⊕ (Int32 × kM)) :=
  kGx (a4 + 1) G.2.1 (kBd (F_155 T (G.2.2 (a4 + 1).toNatClampNeg) M) (fun r18 M19 => kGd (decide (1 ≤ mc) && decide (6 ≤ ms)) (kGx (a4 + 1) G.2.1 (kBd (F_140 T (G.2.2 (a4 + 1).toNatClampNeg) M19) (fun r23 M24 => kBd (F_94 T  M24) (fun r26 M27 => if r26 = r18 then (if r18 = 0 then (kGx 0 1 (if (lg_cmp (go M27 (0 : Int32).toNatClampNeg) r23.toInt64) = 0 then (F_156_854 G a4 T M27 (mc - 1) (ms - 6)) else (some (.inr ((0, M27)))))) else (F_156_854 G a4 T M27 (mc - 1) (ms - 6))) else (some (.inr ((0, M27))))))))))
set_option maxHeartbeats 1000000 in
theorem W_156_801 {G : kG} {d : Nat} {A : kLb → Nat} {C : kCl} {P : kO → kH → Prop} {T : kT} {M : kM} {mc ms : Nat} {h : kH} {a4 : Int32} {b5 b6 : Option Value} {z : ((Int32 × kT × kM × Nat × Nat) ⊕ (Int32 × kM))} (hC : C = kRun G (d + 56)) (R : kRl A T M h) (K : (Sum.elim (fun w : (Int32 × kT × kM × Nat × Nat) => ∀ (A : kLb → Nat) (h : kH) (b5 b6 : Option Value), kRl A w.2.1 w.2.2.1 h → kWP G 156 C P 23 [some (.ref G.1), some (.ref (A lD)), some (.ref (A lMo)), some (.ref (A lOu)), some (.int w.1), b5, b6] [] h w.2.2.2.1 w.2.2.2.2) (fun z : (Int32 × kM) => ∀ h1, P (.inl (some (.int z.1))) h1)) z) (hF : F_156_801 G a4 T M mc ms = some z) : kWP G 156 C P 801 [some (.ref G.1), some (.ref (A lD)), some (.ref (A lMo)), some (.ref (A lOu)), some (.int a4), b5, b6] [] h mc ms := by
  unfold F_156_801 at hF
  refine k_aload_n (pc := 801) i_156_801 rfl rfl ?_
  refine k_aload_n (pc := 802) i_156_802 rfl rfl ?_
  refine k_iload (pc := 803) i_156_803 rfl ?_
  refine k_iconst (pc := 805) (v := 1) i_156_805 (by decide) ?_
  refine k_iadd (pc := 806) i_156_806 ?_
  obtain ⟨g17, hF⟩ := kGx_el hF
  refine k_sald (pc := 807) i_156_807 g17 ?_
  refine k_aload_n (pc := 808) i_156_808 rfl rfl ?_
  obtain ⟨r18, M19, q20, hF⟩ := kBd_el hF
  obtain ⟨g21, hF⟩ := kGd_el hF
  obtain ⟨g21a, g21b⟩ := kG2 g21
  refine kcw_I (pc := 809) (As := [.ref (A lD), .int (G.2.2 (a4 + 1).toNatClampNeg), .ref (A lOu)]) (st := []) (A := A) (T := T) (r := r18) (M1 := M19) i_156_809 m_8_112 rfl rfl rfl (Nat.le_of_ble_eq_true rfl) (hC ▸ D_155 (d := d + 0) (Nat.le_refl _) (Nat.le_refl _) R q20) g21a g21b (fun h R => ?_)
  refine k_istore (pc := 812) (lo2 := [some (.ref G.1), some (.ref (A lD)), some (.ref (A lMo)), some (.ref (A lOu)), some (.int a4), some (.int r18), b6]) i_156_812 (Nat.le_of_ble_eq_true rfl) rfl ?_
  refine k_aload_n (pc := 814) i_156_814 rfl rfl ?_
  refine k_aload_n (pc := 815) i_156_815 rfl rfl ?_
  refine k_iload (pc := 816) i_156_816 rfl ?_
  refine k_iconst (pc := 818) (v := 1) i_156_818 (by decide) ?_
  refine k_iadd (pc := 819) i_156_819 ?_
  obtain ⟨g22, hF⟩ := kGx_el hF
  refine k_sald (pc := 820) i_156_820 g22 ?_
  obtain ⟨r23, M24, q25, hF⟩ := kBd_el hF
  refine kcv_I (pc := 821) (As := [.ref (A lMo), .int (G.2.2 (a4 + 1).toNatClampNeg)]) (st := []) (A := A) (T := T) (r := r23) (M1 := M24) i_156_821 m_8_114 rfl rfl rfl rfl (rd_Mo R) rfl (Nat.le_of_ble_eq_true rfl) (hC ▸ D_140 (d := d + 51) R q25) (fun h R => ?_)
  refine k_istore (pc := 824) (lo2 := [some (.ref G.1), some (.ref (A lD)), some (.ref (A lMo)), some (.ref (A lOu)), some (.int a4), some (.int r18), some (.int r23)]) i_156_824 (Nat.le_of_ble_eq_true rfl) rfl ?_
  refine k_aload_n (pc := 826) i_156_826 rfl rfl ?_
  obtain ⟨r26, M27, q28, hF⟩ := kBd_el hF
  refine kcv_I (pc := 827) (As := [.ref (A lMo)]) (st := []) (A := A) (T := T) (r := r26) (M1 := M27) i_156_827 m_8_67 rfl rfl rfl rfl (rd_Mo R) rfl (Nat.le_of_ble_eq_true rfl) (hC ▸ D_94 (d := d + 55) R q28) (fun h R => ?_)
  refine k_iload (pc := 830) i_156_830 rfl ?_
  refine k_icmp_eq (pc := 832) (tgt := 837) i_156_832 (by decide) (fun c29 => ?_) (fun c29 => ?_)
  · rw [if_pos c29] at hF
    refine k_iload (pc := 837) i_156_837 rfl ?_
    refine k_if_ne (pc := 839) (tgt := 854) i_156_839 (by decide) (fun c30 => ?_) (fun c30 => ?_)
    · rw [if_neg c30] at hF
      exact W_156_854 (d := d) hC R K hF
    · rw [if_pos c30] at hF
      refine k_aload_n (pc := 842) i_156_842 rfl rfl ?_
      refine k_iconst (pc := 843) (v := 0) i_156_843 (by decide) ?_
      obtain ⟨g31, hF⟩ := kGx_el hF
      refine k_lald (pc := 844) i_156_844 (rd_Ou R) g31 ?_
      refine k_iload (pc := 845) i_156_845 rfl ?_
      refine k_i2l (pc := 847) i_156_847 ?_
      refine k_lcmp (pc := 848) i_156_848 rfl ?_
      refine k_if_eq (pc := 849) (tgt := 854) i_156_849 (by decide) (fun c32 => ?_) (fun c32 => ?_)
      · rw [if_pos c32] at hF
        exact W_156_854 (d := d) hC R K hF
      · rw [if_neg c32] at hF
        refine k_iconst (pc := 852) (v := 0) i_156_852 (by decide) ?_
        obtain rfl := Option.some.inj hF
        exact k_ireturn (pc := 853) i_156_853 rfl rfl (K _)
  · rw [if_neg c29] at hF
    refine k_iconst (pc := 835) (v := 0) i_156_835 (by decide) ?_
    obtain rfl := Option.some.inj hF
    exact k_ireturn (pc := 836) i_156_836 rfl rfl (K _)
noncomputable def F_156_857 (G : kG) (a4 : Int32) (T : kT) (M : kM) (mc ms : Nat) : Option ((Int32 × kT × kM × Nat × Nat) ⊕ (Int32 × kM)) :=
  kGx (a4 + 1) G.2.1 (kBd (F_15 T (G.2.2 (a4 + 1).toNatClampNeg) M) (fun r19 M20 => kGx (a4 + 1) G.2.1 (kBd (F_141 T (G.2.2 (a4 + 1).toNatClampNeg) M20) (fun r23 M24 => if r19 = r23 then (some (.inl ((a4 + 5), T, M24, mc, ms))) else (some (.inr ((0, M24))))))))
set_option maxHeartbeats 1000000 in
theorem W_156_857 {G : kG} {d : Nat} {A : kLb → Nat} {C : kCl} {P : kO → kH → Prop} {T : kT} {M : kM} {mc ms : Nat} {h : kH} {a4 : Int32} {b5 b6 : Option Value} {z : ((Int32 × kT × kM × Nat × Nat) ⊕ (Int32 × kM))} (hC : C = kRun G (d + 56)) (R : kRl A T M h) (K : (Sum.elim (fun w : (Int32 × kT × kM × Nat × Nat) => ∀ (A : kLb → Nat) (h : kH) (b5 b6 : Option Value), kRl A w.2.1 w.2.2.1 h → kWP G 156 C P 23 [some (.ref G.1), some (.ref (A lD)), some (.ref (A lMo)), some (.ref (A lOu)), some (.int w.1), b5, b6] [] h w.2.2.2.1 w.2.2.2.2) (fun z : (Int32 × kM) => ∀ h1, P (.inl (some (.int z.1))) h1)) z) (hF : F_156_857 G a4 T M mc ms = some z) : kWP G 156 C P 857 [some (.ref G.1), some (.ref (A lD)), some (.ref (A lMo)), some (.ref (A lOu)), some (.int a4), b5, b6] [] h mc ms := by
  unfold F_156_857 at hF
  refine k_aload_n (pc := 857) i_156_857 rfl rfl ?_
  refine k_aload_n (pc := 858) i_156_858 rfl rfl ?_
  refine k_iload (pc := 859) i_156_859 rfl ?_
  refine k_iconst (pc := 861) (v := 1) i_156_861 (by decide) ?_
  refine k_iadd (pc := 862) i_156_862 ?_
  obtain ⟨g18, hF⟩ := kGx_el hF
  refine k_sald (pc := 863) i_156_863 g18 ?_
  obtain ⟨r19, M20, q21, hF⟩ := kBd_el hF
  refine kcv_I (pc := 864) (As := [.ref (A lD), .int (G.2.2 (a4 + 1).toNatClampNeg)]) (st := []) (A := A) (T := T) (r := r19) (M1 := M20) i_156_864 m_8_115 rfl rfl rfl rfl (rd_D R) rfl (Nat.le_of_ble_eq_true rfl) (hC ▸ D_15 (d := d + 55) R q21) (fun h R => ?_)
  refine k_aload_n (pc := 867) i_156_867 rfl rfl ?_
  refine k_aload_n (pc := 868) i_156_868 rfl rfl ?_
  refine k_iload (pc := 869) i_156_869 rfl ?_
  refine k_iconst (pc := 871) (v := 1) i_156_871 (by decide) ?_
  refine k_iadd (pc := 872) i_156_872 ?_
  obtain ⟨g22, hF⟩ := kGx_el hF
  refine k_sald (pc := 873) i_156_873 g22 ?_
  obtain ⟨r23, M24, q25, hF⟩ := kBd_el hF
  refine kcv_I (pc := 874) (As := [.ref (A lMo), .int (G.2.2 (a4 + 1).toNatClampNeg)]) (st := [.int r19]) (A := A) (T := T) (r := r23) (M1 := M24) i_156_874 m_8_118 rfl rfl rfl rfl (rd_Mo R) rfl (Nat.le_of_ble_eq_true rfl) (hC ▸ D_141 (d := d + 54) R q25) (fun h R => ?_)
  refine k_icmp_eq (pc := 877) (tgt := 895) i_156_877 (by decide) (fun c26 => ?_) (fun c26 => ?_)
  · rw [if_pos c26] at hF
    refine k_iinc (pc := 895) (v := a4 + 5) (lo2 := [some (.ref G.1), some (.ref (A lD)), some (.ref (A lMo)), some (.ref (A lOu)), some (.int (a4 + 5)), b5, b6]) i_156_895 rfl rfl rfl ?_
    refine k_goto (pc := 898) (tgt := 23) i_156_898 (by decide) ?_
    obtain rfl := Option.some.inj hF
    exact K _ _ _ _ R
  · rw [if_neg c26] at hF
    refine k_iconst (pc := 880) (v := 0) i_156_880 (by decide) ?_
    obtain rfl := Option.some.inj hF
    exact k_ireturn (pc := 881) i_156_881 rfl rfl (K _)
noncomputable def F_156_882 (G : kG) (a4 : Int32) (T : kT) (M : kM) (mc ms : Nat) : Option ((Int32 × kT × kM × Nat × Nat) ⊕ (Int32 × kM)) :=
  kBd (F_16 T  M) (fun r19 M20 => kBd (F_142 T  M20) (fun r22 M23 => if r19 = r22 then (some (.inl ((a4 + 5), T, M23, mc, ms))) else (some (.inr ((0, M23))))))
set_option maxHeartbeats 1000000 in
theorem W_156_882 {G : kG} {d : Nat} {A : kLb → Nat} {C : kCl} {P : kO → kH → Prop} {T : kT} {M : kM} {mc ms : Nat} {h : kH} {a4 : Int32} {b5 b6 : Option Value} {z : ((Int32 × kT × kM × Nat × Nat) ⊕ (Int32 × kM))} (hC : C = kRun G (d + 56)) (R : kRl A T M h) (K : (Sum.elim (fun w : (Int32 × kT × kM × Nat × Nat) => ∀ (A : kLb → Nat) (h : kH) (b5 b6 : Option Value), kRl A w.2.1 w.2.2.1 h → kWP G 156 C P 23 [some (.ref G.1), some (.ref (A lD)), some (.ref (A lMo)), some (.ref (A lOu)), some (.int w.1), b5, b6] [] h w.2.2.2.1 w.2.2.2.2) (fun z : (Int32 × kM) => ∀ h1, P (.inl (some (.int z.1))) h1)) z) (hF : F_156_882 G a4 T M mc ms = some z) : kWP G 156 C P 882 [some (.ref G.1), some (.ref (A lD)), some (.ref (A lMo)), some (.ref (A lOu)), some (.int a4), b5, b6] [] h mc ms := by
  unfold F_156_882 at hF
  refine k_aload_n (pc := 882) i_156_882 rfl rfl ?_
  obtain ⟨r19, M20, q21, hF⟩ := kBd_el hF
  refine kcv_I (pc := 883) (As := [.ref (A lD)]) (st := []) (A := A) (T := T) (r := r19) (M1 := M20) i_156_883 m_8_119 rfl rfl rfl rfl (rd_D R) rfl (Nat.le_of_ble_eq_true rfl) (hC ▸ D_16 (d := d + 55) R q21) (fun h R => ?_)
  refine k_aload_n (pc := 886) i_156_886 rfl rfl ?_
  obtain ⟨r22, M23, q24, hF⟩ := kBd_el hF
  refine kcv_I (pc := 887) (As := [.ref (A lMo)]) (st := [.int r19]) (A := A) (T := T) (r := r22) (M1 := M23) i_156_887 m_8_122 rfl rfl rfl rfl (rd_Mo R) rfl (Nat.le_of_ble_eq_true rfl) (hC ▸ D_142 (d := d + 55) R q24) (fun h R => ?_)
  refine k_icmp_eq (pc := 890) (tgt := 895) i_156_890 (by decide) (fun c25 => ?_) (fun c25 => ?_)
  · rw [if_pos c25] at hF
    refine k_iinc (pc := 895) (v := a4 + 5) (lo2 := [some (.ref G.1), some (.ref (A lD)), some (.ref (A lMo)), some (.ref (A lOu)), some (.int (a4 + 5)), b5, b6]) i_156_895 rfl rfl rfl ?_
    refine k_goto (pc := 898) (tgt := 23) i_156_898 (by decide) ?_
    obtain rfl := Option.some.inj hF
    exact K _ _ _ _ R
  · rw [if_neg c25] at hF
    refine k_iconst (pc := 893) (v := 0) i_156_893 (by decide) ?_
    obtain rfl := Option.some.inj hF
    exact k_ireturn (pc := 894) i_156_894 rfl rfl (K _)
noncomputable def B_156_23 (G : kG) (a4 : Int32) (T : kT) (M : kM) (mc ms : Nat) : Option ((Int32 × kT × kM × Nat × Nat) ⊕ (Int32 × kM)) :=
  if ((Int32.ofNat G.2.1) - 5) < a4 then (some (.inr ((1, M)))) else (kGx a4 G.2.1 (if ((G.2.2 a4.toNatClampNeg) &&& 15) = 0 then (F_156_116 G a4 T M mc ms) else (if ((G.2.2 a4.toNatClampNeg) &&& 15) = 1 then (F_156_172 G a4 T M mc ms) else (if ((G.2.2 a4.toNatClampNeg) &&& 15) = 2 then (F_156_220 G a4 T M mc ms) else (if ((G.2.2 a4.toNatClampNeg) &&& 15) = 3 then (F_156_268 G a4 T M mc ms) else (if ((G.2.2 a4.toNatClampNeg) &&& 15) = 4 then (F_156_324 G a4 T M mc ms) else (if ((G.2.2 a4.toNatClampNeg) &&& 15) = 5 then (F_156_404 G a4 T M mc ms) else (if ((G.2.2 a4.toNatClampNeg) &&& 15) = 6 then (F_156_496 G a4 T M mc ms) else (if ((G.2.2 a4.toNatClampNeg) &&& 15) = 7 then (F_156_520 G a4 T M mc ms) else (if ((G.2.2 a4.toNatClampNeg) &&& 15) = 8 then (F_156_564 G a4 T M mc ms) else (if ((G.2.2 a4.toNatClampNeg) &&& 15) = 9 then (F_156_608 G a4 T M mc ms) else (if ((G.2.2 a4.toNatClampNeg) &&& 15) = 10 then (F_156_688 G a4 T M mc ms) else (if ((G.2.2 a4.toNatClampNeg) &&& 15) = 11 then (F_156_744 G a4 T M mc ms) else (if ((G.2.2 a4.toNatClampNeg) &&& 15) = 12 then (F_156_788 G a4 T M mc ms) else (if ((G.2.2 a4.toNatClampNeg) &&& 15) = 13 then (F_156_801 G a4 T M mc ms) else (if ((G.2.2 a4.toNatClampNeg) &&& 15) = 14 then (F_156_857 G a4 T M mc ms) else (if ((G.2.2 a4.toNatClampNeg) &&& 15) = 15 then (F_156_882 G a4 T M mc ms) else (some (.inl ((a4 + 5), T, M, mc, ms))))))))))))))))))))
noncomputable def F_156_23 (G : kG) (a4 : Int32) (T : kT) (M : kM) (mc ms : Nat) : Option (Int32 × kM) :=
  kWh (fun w : (Int32 × kT × kM × Nat × Nat) => B_156_23 G w.1 w.2.1 w.2.2.1 w.2.2.2.1 w.2.2.2.2) (a4, T, M, mc, ms)
theorem F_156_23_eq (G : kG) (a4 : Int32) (T : kT) (M : kM) (mc ms : Nat) : F_156_23 G a4 T M mc ms = kAg (B_156_23 G a4 T M mc ms) (fun w => F_156_23 G w.1 w.2.1 w.2.2.1 w.2.2.2.1 w.2.2.2.2) := by
  unfold F_156_23
  rw [kWh_eq]
set_option maxHeartbeats 1000000 in
theorem W_156_23 {G : kG} {d : Nat} {A : kLb → Nat} {C : kCl} {P : kO → kH → Prop} {T : kT} {M : kM} {mc ms : Nat} {h : kH} {a4 : Int32} {b5 b6 : Option Value} {z : (Int32 × kM)} (hC : C = kRun G (d + 56)) (R : kRl A T M h) (K : (fun z : (Int32 × kM) => ∀ h1, P (.inl (some (.int z.1))) h1) z) (hF : F_156_23 G a4 T M mc ms = some z) : kWP G 156 C P 23 [some (.ref G.1), some (.ref (A lD)), some (.ref (A lMo)), some (.ref (A lOu)), some (.int a4), b5, b6] [] h mc ms := by
  refine kWh_ind (P := (fun w : (Int32 × kT × kM × Nat × Nat) => ∀ (A : kLb → Nat) (h : kH) (b5 b6 : Option Value), kRl A w.2.1 w.2.2.1 h → kWP G 156 C P 23 [some (.ref G.1), some (.ref (A lD)), some (.ref (A lMo)), some (.ref (A lOu)), some (.int w.1), b5, b6] [] h w.2.2.2.1 w.2.2.2.2)) (Q := (fun z : (Int32 × kM) => ∀ h1, P (.inl (some (.int z.1))) h1)) hF K ?_ _ h _ _ R
  clear hF K R
  intro w z hF K A h b5 b6 R
  obtain ⟨a4, T, M, mc, ms⟩ := w
  change B_156_23 G a4 T M mc ms = some z at hF
  change kWP G 156 C P 23 [some (.ref G.1), some (.ref (A lD)), some (.ref (A lMo)), some (.ref (A lOu)), some (.int a4), b5, b6] [] h mc ms
  unfold B_156_23 at hF
  refine k_iload (pc := 23) i_156_23 rfl ?_
  refine k_aload_n (pc := 25) i_156_25 rfl rfl ?_
  refine k_slen (pc := 26) i_156_26 rfl ?_
  refine k_iconst (pc := 27) (v := 5) i_156_27 (by decide) ?_
  refine k_isub (pc := 28) i_156_28 ?_
  refine k_icmp_gt (pc := 29) (tgt := 901) i_156_29 (by decide) (fun c1 => ?_) (fun c1 => ?_)
  · rw [if_pos c1] at hF
    refine k_iconst (pc := 901) (v := 1) i_156_901 (by decide) ?_
    obtain rfl := Option.some.inj hF
    exact k_ireturn (pc := 902) i_156_902 rfl rfl (K _)
  · rw [if_neg c1] at hF
    refine k_aload_n (pc := 32) i_156_32 rfl rfl ?_
    refine k_iload (pc := 33) i_156_33 rfl ?_
    obtain ⟨g2, hF⟩ := kGx_el hF
    refine k_sald (pc := 35) i_156_35 g2 ?_
    refine k_bipush (pc := 36) (v := 15) i_156_36 (by decide) ?_
    refine k_iand (pc := 38) i_156_38 ?_
    by_cases c3 : ((G.2.2 a4.toNatClampNeg) &&& 15) = 0
    · rw [if_pos c3] at hF
      rw [c3]
      refine k_tswIn (pc := 39) (tgt := 116) i_156_39 (by decide) (by decide) rfl (by decide) ?_
      exact W_156_116 (d := d) hC R K hF
    rw [if_neg c3] at hF
    by_cases c4 : ((G.2.2 a4.toNatClampNeg) &&& 15) = 1
    · rw [if_pos c4] at hF
      rw [c4]
      refine k_tswIn (pc := 39) (tgt := 172) i_156_39 (by decide) (by decide) rfl (by decide) ?_
      exact W_156_172 (d := d) hC R K hF
    rw [if_neg c4] at hF
    by_cases c5 : ((G.2.2 a4.toNatClampNeg) &&& 15) = 2
    · rw [if_pos c5] at hF
      rw [c5]
      refine k_tswIn (pc := 39) (tgt := 220) i_156_39 (by decide) (by decide) rfl (by decide) ?_
      exact W_156_220 (d := d) hC R K hF
    rw [if_neg c5] at hF
    by_cases c6 : ((G.2.2 a4.toNatClampNeg) &&& 15) = 3
    · rw [if_pos c6] at hF
      rw [c6]
      refine k_tswIn (pc := 39) (tgt := 268) i_156_39 (by decide) (by decide) rfl (by decide) ?_
      exact W_156_268 (d := d) hC R K hF
    rw [if_neg c6] at hF
    by_cases c7 : ((G.2.2 a4.toNatClampNeg) &&& 15) = 4
    · rw [if_pos c7] at hF
      rw [c7]
      refine k_tswIn (pc := 39) (tgt := 324) i_156_39 (by decide) (by decide) rfl (by decide) ?_
      exact W_156_324 (d := d) hC R K hF
    rw [if_neg c7] at hF
    by_cases c8 : ((G.2.2 a4.toNatClampNeg) &&& 15) = 5
    · rw [if_pos c8] at hF
      rw [c8]
      refine k_tswIn (pc := 39) (tgt := 404) i_156_39 (by decide) (by decide) rfl (by decide) ?_
      exact W_156_404 (d := d) hC R K hF
    rw [if_neg c8] at hF
    by_cases c9 : ((G.2.2 a4.toNatClampNeg) &&& 15) = 6
    · rw [if_pos c9] at hF
      rw [c9]
      refine k_tswIn (pc := 39) (tgt := 496) i_156_39 (by decide) (by decide) rfl (by decide) ?_
      exact W_156_496 (d := d) hC R K hF
    rw [if_neg c9] at hF
    by_cases c10 : ((G.2.2 a4.toNatClampNeg) &&& 15) = 7
    · rw [if_pos c10] at hF
      rw [c10]
      refine k_tswIn (pc := 39) (tgt := 520) i_156_39 (by decide) (by decide) rfl (by decide) ?_
      exact W_156_520 (d := d) hC R K hF
    rw [if_neg c10] at hF
    by_cases c11 : ((G.2.2 a4.toNatClampNeg) &&& 15) = 8
    · rw [if_pos c11] at hF
      rw [c11]
      refine k_tswIn (pc := 39) (tgt := 564) i_156_39 (by decide) (by decide) rfl (by decide) ?_
      exact W_156_564 (d := d) hC R K hF
    rw [if_neg c11] at hF
    by_cases c12 : ((G.2.2 a4.toNatClampNeg) &&& 15) = 9
    · rw [if_pos c12] at hF
      rw [c12]
      refine k_tswIn (pc := 39) (tgt := 608) i_156_39 (by decide) (by decide) rfl (by decide) ?_
      exact W_156_608 (d := d) hC R K hF
    rw [if_neg c12] at hF
    by_cases c13 : ((G.2.2 a4.toNatClampNeg) &&& 15) = 10
    · rw [if_pos c13] at hF
      rw [c13]
      refine k_tswIn (pc := 39) (tgt := 688) i_156_39 (by decide) (by decide) rfl (by decide) ?_
      exact W_156_688 (d := d) hC R K hF
    rw [if_neg c13] at hF
    by_cases c14 : ((G.2.2 a4.toNatClampNeg) &&& 15) = 11
    · rw [if_pos c14] at hF
      rw [c14]
      refine k_tswIn (pc := 39) (tgt := 744) i_156_39 (by decide) (by decide) rfl (by decide) ?_
      exact W_156_744 (d := d) hC R K hF
    rw [if_neg c14] at hF
    by_cases c15 : ((G.2.2 a4.toNatClampNeg) &&& 15) = 12
    · rw [if_pos c15] at hF
      rw [c15]
      refine k_tswIn (pc := 39) (tgt := 788) i_156_39 (by decide) (by decide) rfl (by decide) ?_
      exact W_156_788 (d := d) hC R K hF
    rw [if_neg c15] at hF
    by_cases c16 : ((G.2.2 a4.toNatClampNeg) &&& 15) = 13
    · rw [if_pos c16] at hF
      rw [c16]
      refine k_tswIn (pc := 39) (tgt := 801) i_156_39 (by decide) (by decide) rfl (by decide) ?_
      exact W_156_801 (d := d) hC R K hF
    rw [if_neg c16] at hF
    by_cases c17 : ((G.2.2 a4.toNatClampNeg) &&& 15) = 14
    · rw [if_pos c17] at hF
      rw [c17]
      refine k_tswIn (pc := 39) (tgt := 857) i_156_39 (by decide) (by decide) rfl (by decide) ?_
      exact W_156_857 (d := d) hC R K hF
    rw [if_neg c17] at hF
    by_cases c18 : ((G.2.2 a4.toNatClampNeg) &&& 15) = 15
    · rw [if_pos c18] at hF
      rw [c18]
      refine k_tswIn (pc := 39) (tgt := 882) i_156_39 (by decide) (by decide) rfl (by decide) ?_
      exact W_156_882 (d := d) hC R K hF
    rw [if_neg c18] at hF
    refine k_tswOut (pc := 39) (tgt := 895) i_156_39 (kSwOut (n := 16) (by decide) (fun k hk => match k, hk with | 0, _ => c3 | 1, _ => c4 | 2, _ => c5 | 3, _ => c6 | 4, _ => c7 | 5, _ => c8 | 6, _ => c9 | 7, _ => c10 | 8, _ => c11 | 9, _ => c12 | 10, _ => c13 | 11, _ => c14 | 12, _ => c15 | 13, _ => c16 | 14, _ => c17 | 15, _ => c18 | k + 16, hk => absurd hk (by omega))) (by decide) ?_
    refine k_iinc (pc := 895) (v := a4 + 5) (lo2 := [some (.ref G.1), some (.ref (A lD)), some (.ref (A lMo)), some (.ref (A lOu)), some (.int (a4 + 5)), b5, b6]) i_156_895 rfl rfl rfl ?_
    refine k_goto (pc := 898) (tgt := 23) i_156_898 (by decide) ?_
    obtain rfl := Option.some.inj hF
    exact K _ _ _ _ R
