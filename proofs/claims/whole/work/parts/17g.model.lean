-- 116: RDModel numbers
noncomputable def B_116_139 (T : kT) (a2 : Int32) (a3 : Int32) (M : kM) : Option ((Int32 × kM) ⊕ (Unit × kM)) :=
  if a2 ≤ a3 then (some (.inr (((), M)))) else (if 0 ≤ (gp M lMo 23) then (some (.inr (((), M)))) else (kBd (F_114 T  M) (fun r21 M22 => some (.inl ((a3 + 1), M22)))))
noncomputable def F_116_139 (T : kT) (a2 : Int32) (a3 : Int32) (M : kM) : Option (Unit × kM) :=
  kWh (fun w : (Int32 × kM) => B_116_139 T a2 w.1 w.2) (a3, M)
theorem F_116_139_eq (T : kT) (a2 : Int32) (a3 : Int32) (M : kM) : F_116_139 T a2 a3 M = kAg (B_116_139 T a2 a3 M) (fun w => F_116_139 T a2 w.1 w.2) := by
  unfold F_116_139
  rw [kWh_eq]
set_option maxHeartbeats 1000000 in
theorem W_116_139 {G : kG} {d : Nat} {A : kLb → Nat} {C : kCl} {P : kO → kH → Prop} {T : kT} {M : kM} {h : kH} {a2 : Int32} {a3 : Int32} {b1 b4 : Option Value} {z : (Unit × kM)} (hC : C = kRun G (d + 3)) (R : kRl A T M h) (K : (fun z : (Unit × kM) => ∀ h1, kRl A T z.2 h1 → P (.inl none) h1) z) (hF : F_116_139 T a2 a3 M = some z) : kWP G 116 C P 139 [some (.ref (A lMo)), b1, some (.int a2), some (.int a3), b4] [] h 0 0 := by
  refine kWh_ind (P := (fun w : (Int32 × kM) => ∀ (h : kH) (b1 b4 : Option Value), kRl A T w.2 h → kWP G 116 C P 139 [some (.ref (A lMo)), b1, some (.int a2), some (.int w.1), b4] [] h 0 0)) (Q := (fun z : (Unit × kM) => ∀ h1, kRl A T z.2 h1 → P (.inl none) h1)) hF K ?_ h _ _ R
  clear hF K R
  intro w z hF K h b1 b4 R
  obtain ⟨a3, M⟩ := w
  change B_116_139 T a2 a3 M = some z at hF
  change kWP G 116 C P 139 [some (.ref (A lMo)), b1, some (.int a2), some (.int a3), b4] [] h 0 0
  unfold B_116_139 at hF
  refine k_iload_n (pc := 139) i_116_139 rfl ?_
  refine k_iload_n (pc := 140) i_116_140 rfl ?_
  refine k_icmp_ge (pc := 141) (tgt := 163) i_116_141 (by decide) (fun c19 => ?_) (fun c19 => ?_)
  · rw [if_pos c19] at hF
    obtain rfl := Option.some.inj hF
    exact k_return (pc := 163) i_116_163 rfl (K _ R)
  · rw [if_neg c19] at hF
    refine k_aload_n (pc := 144) i_116_144 rfl rfl ?_
    refine k_getf (pc := 145) i_116_145 f_7_133 (rd_Mo R) rfl ?_
    refine k_if_ge (pc := 148) (tgt := 163) i_116_148 (by decide) (fun c20 => ?_) (fun c20 => ?_)
    · rw [if_pos c20] at hF
      obtain rfl := Option.some.inj hF
      exact k_return (pc := 163) i_116_163 rfl (K _ R)
    · rw [if_neg c20] at hF
      refine k_aload_n (pc := 151) i_116_151 rfl rfl ?_
      obtain ⟨r21, M22, q23, hF⟩ := kBd_el hF
      refine kcv_I (pc := 152) (As := [.ref (A lMo)]) (st := []) (A := A) (T := T) (r := r21) (M1 := M22) i_116_152 m_7_163 rfl rfl rfl rfl (rd_Mo R) rfl (Nat.le_of_ble_eq_true rfl) (hC ▸ D_114 R q23) (fun h R => ?_)
      refine k_istore (pc := 155) (lo2 := [some (.ref (A lMo)), b1, some (.int a2), some (.int a3), some (.int r21)]) i_116_155 (Nat.le_of_ble_eq_true rfl) rfl ?_
      refine k_iinc (pc := 157) (v := a3 + 1) (lo2 := [some (.ref (A lMo)), b1, some (.int a2), some (.int (a3 + 1)), some (.int r21)]) i_116_157 rfl rfl rfl ?_
      refine k_goto (pc := 160) (tgt := 139) i_116_160 (by decide) ?_
      obtain rfl := Option.some.inj hF
      exact K _ _ _ R
noncomputable def F_116_123 (T : kT) (a1 : Int32) (M : kM) : Option (Unit × kM) :=
  if a1 = 2 then (kBd (F_113 T 1 8 M) (fun r16 M17 => F_116_139 T r16 0 M17)) else (some ((), M))
set_option maxHeartbeats 1000000 in
theorem W_116_123 {G : kG} {d : Nat} {A : kLb → Nat} {C : kCl} {P : kO → kH → Prop} {T : kT} {M : kM} {h : kH} {a1 : Int32} {b2 b3 b4 : Option Value} {z : (Unit × kM)} (hC : C = kRun G (d + 3)) (R : kRl A T M h) (K : (fun z : (Unit × kM) => ∀ h1, kRl A T z.2 h1 → P (.inl none) h1) z) (hF : F_116_123 T a1 M = some z) : kWP G 116 C P 123 [some (.ref (A lMo)), some (.int a1), b2, b3, b4] [] h 0 0 := by
  unfold F_116_123 at hF
  refine k_iload_n (pc := 123) i_116_123 rfl ?_
  refine k_iconst (pc := 124) (v := 2) i_116_124 (by decide) ?_
  refine k_icmp_eq (pc := 125) (tgt := 129) i_116_125 (by decide) (fun c15 => ?_) (fun c15 => ?_)
  · rw [if_pos c15] at hF
    refine k_aload_n (pc := 129) i_116_129 rfl rfl ?_
    refine k_iconst (pc := 130) (v := 1) i_116_130 (by decide) ?_
    refine k_bipush (pc := 131) (v := 8) i_116_131 (by decide) ?_
    obtain ⟨r16, M17, q18, hF⟩ := kBd_el hF
    refine kcv_I (pc := 133) (As := [.ref (A lMo), .int 1, .int 8]) (st := []) (A := A) (T := T) (r := r16) (M1 := M17) i_116_133 m_7_145 rfl rfl rfl rfl (rd_Mo R) rfl (Nat.le_of_ble_eq_true rfl) (hC ▸ D_113 R q18) (fun h R => ?_)
    refine k_istore_n (pc := 136) (lo2 := [some (.ref (A lMo)), some (.int a1), some (.int r16), b3, b4]) i_116_136 (Nat.le_of_ble_eq_true rfl) rfl ?_
    refine k_iconst (pc := 137) (v := 0) i_116_137 (by decide) ?_
    refine k_istore_n (pc := 138) (lo2 := [some (.ref (A lMo)), some (.int a1), some (.int r16), some (.int 0), b4]) i_116_138 (Nat.le_of_ble_eq_true rfl) rfl ?_
    exact W_116_139 (d := d) hC R K hF
  · rw [if_neg c15] at hF
    obtain rfl := Option.some.inj hF
    exact k_return (pc := 128) i_116_128 rfl (K _ R)
noncomputable def F_116_109 (T : kT) (a1 : Int32) (M : kM) : Option (Unit × kM) :=
  if a1 = 8 then (kBd (F_113 T 0 100 M) (fun r15 M16 => F_116_123 T a1 M16)) else (F_116_123 T a1 M)
set_option maxHeartbeats 1000000 in
theorem W_116_109 {G : kG} {d : Nat} {A : kLb → Nat} {C : kCl} {P : kO → kH → Prop} {T : kT} {M : kM} {h : kH} {a1 : Int32} {b2 b3 b4 : Option Value} {z : (Unit × kM)} (hC : C = kRun G (d + 3)) (R : kRl A T M h) (K : (fun z : (Unit × kM) => ∀ h1, kRl A T z.2 h1 → P (.inl none) h1) z) (hF : F_116_109 T a1 M = some z) : kWP G 116 C P 109 [some (.ref (A lMo)), some (.int a1), b2, b3, b4] [] h 0 0 := by
  unfold F_116_109 at hF
  refine k_iload_n (pc := 109) i_116_109 rfl ?_
  refine k_bipush (pc := 110) (v := 8) i_116_110 (by decide) ?_
  refine k_icmp_ne (pc := 112) (tgt := 123) i_116_112 (by decide) (fun c14 => ?_) (fun c14 => ?_)
  · rw [if_neg c14] at hF
    exact W_116_123 (d := d) hC R K hF
  · rw [if_pos c14] at hF
    refine k_aload_n (pc := 115) i_116_115 rfl rfl ?_
    refine k_iconst (pc := 116) (v := 0) i_116_116 (by decide) ?_
    refine k_bipush (pc := 117) (v := 100) i_116_117 (by decide) ?_
    obtain ⟨r15, M16, q17, hF⟩ := kBd_el hF
    refine kcv_I (pc := 119) (As := [.ref (A lMo), .int 0, .int 100]) (st := []) (A := A) (T := T) (r := r15) (M1 := M16) i_116_119 m_7_145 rfl rfl rfl rfl (rd_Mo R) rfl (Nat.le_of_ble_eq_true rfl) (hC ▸ D_113 R q17) (fun h R => ?_)
    refine k_istore_n (pc := 122) (lo2 := [some (.ref (A lMo)), some (.int a1), some (.int r15), b3, b4]) i_116_122 (Nat.le_of_ble_eq_true rfl) rfl ?_
    exact W_116_123 (d := d) hC R K hF
noncomputable def F_116_98 (T : kT) (a1 : Int32) (M : kM) : Option (Unit × kM) :=
  if a1 = 10 then (kBd (F_114 T  M) (fun r14 M15 => F_116_109 T a1 M15)) else (F_116_109 T a1 M)
set_option maxHeartbeats 1000000 in
theorem W_116_98 {G : kG} {d : Nat} {A : kLb → Nat} {C : kCl} {P : kO → kH → Prop} {T : kT} {M : kM} {h : kH} {a1 : Int32} {b2 b3 b4 : Option Value} {z : (Unit × kM)} (hC : C = kRun G (d + 3)) (R : kRl A T M h) (K : (fun z : (Unit × kM) => ∀ h1, kRl A T z.2 h1 → P (.inl none) h1) z) (hF : F_116_98 T a1 M = some z) : kWP G 116 C P 98 [some (.ref (A lMo)), some (.int a1), b2, b3, b4] [] h 0 0 := by
  unfold F_116_98 at hF
  refine k_iload_n (pc := 98) i_116_98 rfl ?_
  refine k_bipush (pc := 99) (v := 10) i_116_99 (by decide) ?_
  refine k_icmp_ne (pc := 101) (tgt := 109) i_116_101 (by decide) (fun c13 => ?_) (fun c13 => ?_)
  · rw [if_neg c13] at hF
    exact W_116_109 (d := d) hC R K hF
  · rw [if_pos c13] at hF
    refine k_aload_n (pc := 104) i_116_104 rfl rfl ?_
    obtain ⟨r14, M15, q16, hF⟩ := kBd_el hF
    refine kcv_I (pc := 105) (As := [.ref (A lMo)]) (st := []) (A := A) (T := T) (r := r14) (M1 := M15) i_116_105 m_7_163 rfl rfl rfl rfl (rd_Mo R) rfl (Nat.le_of_ble_eq_true rfl) (hC ▸ D_114 R q16) (fun h R => ?_)
    refine k_istore_n (pc := 108) (lo2 := [some (.ref (A lMo)), some (.int a1), some (.int r14), b3, b4]) i_116_108 (Nat.le_of_ble_eq_true rfl) rfl ?_
    exact W_116_109 (d := d) hC R K hF
noncomputable def F_116_85 (T : kT) (a1 : Int32) (M : kM) : Option (Unit × kM) :=
  if a1 = 10 then (kBd (F_113 T 0 3 M) (fun r13 M14 => F_116_98 T a1 M14)) else (F_116_98 T a1 M)
set_option maxHeartbeats 1000000 in
theorem W_116_85 {G : kG} {d : Nat} {A : kLb → Nat} {C : kCl} {P : kO → kH → Prop} {T : kT} {M : kM} {h : kH} {a1 : Int32} {b2 b3 b4 : Option Value} {z : (Unit × kM)} (hC : C = kRun G (d + 3)) (R : kRl A T M h) (K : (fun z : (Unit × kM) => ∀ h1, kRl A T z.2 h1 → P (.inl none) h1) z) (hF : F_116_85 T a1 M = some z) : kWP G 116 C P 85 [some (.ref (A lMo)), some (.int a1), b2, b3, b4] [] h 0 0 := by
  unfold F_116_85 at hF
  refine k_iload_n (pc := 85) i_116_85 rfl ?_
  refine k_bipush (pc := 86) (v := 10) i_116_86 (by decide) ?_
  refine k_icmp_ne (pc := 88) (tgt := 98) i_116_88 (by decide) (fun c12 => ?_) (fun c12 => ?_)
  · rw [if_neg c12] at hF
    exact W_116_98 (d := d) hC R K hF
  · rw [if_pos c12] at hF
    refine k_aload_n (pc := 91) i_116_91 rfl rfl ?_
    refine k_iconst (pc := 92) (v := 0) i_116_92 (by decide) ?_
    refine k_iconst (pc := 93) (v := 3) i_116_93 (by decide) ?_
    obtain ⟨r13, M14, q15, hF⟩ := kBd_el hF
    refine kcv_I (pc := 94) (As := [.ref (A lMo), .int 0, .int 3]) (st := []) (A := A) (T := T) (r := r13) (M1 := M14) i_116_94 m_7_145 rfl rfl rfl rfl (rd_Mo R) rfl (Nat.le_of_ble_eq_true rfl) (hC ▸ D_113 R q15) (fun h R => ?_)
    refine k_istore_n (pc := 97) (lo2 := [some (.ref (A lMo)), some (.int a1), some (.int r13), b3, b4]) i_116_97 (Nat.le_of_ble_eq_true rfl) rfl ?_
    exact W_116_98 (d := d) hC R K hF
noncomputable def F_116_72 (T : kT) (a1 : Int32) (M : kM) : Option (Unit × kM) :=
  if a1 = 7 then (kBd (F_113 T 0 1 M) (fun r12 M13 => F_116_85 T a1 M13)) else (F_116_85 T a1 M)
set_option maxHeartbeats 1000000 in
theorem W_116_72 {G : kG} {d : Nat} {A : kLb → Nat} {C : kCl} {P : kO → kH → Prop} {T : kT} {M : kM} {h : kH} {a1 : Int32} {b2 b3 b4 : Option Value} {z : (Unit × kM)} (hC : C = kRun G (d + 3)) (R : kRl A T M h) (K : (fun z : (Unit × kM) => ∀ h1, kRl A T z.2 h1 → P (.inl none) h1) z) (hF : F_116_72 T a1 M = some z) : kWP G 116 C P 72 [some (.ref (A lMo)), some (.int a1), b2, b3, b4] [] h 0 0 := by
  unfold F_116_72 at hF
  refine k_iload_n (pc := 72) i_116_72 rfl ?_
  refine k_bipush (pc := 73) (v := 7) i_116_73 (by decide) ?_
  refine k_icmp_ne (pc := 75) (tgt := 85) i_116_75 (by decide) (fun c11 => ?_) (fun c11 => ?_)
  · rw [if_neg c11] at hF
    exact W_116_85 (d := d) hC R K hF
  · rw [if_pos c11] at hF
    refine k_aload_n (pc := 78) i_116_78 rfl rfl ?_
    refine k_iconst (pc := 79) (v := 0) i_116_79 (by decide) ?_
    refine k_iconst (pc := 80) (v := 1) i_116_80 (by decide) ?_
    obtain ⟨r12, M13, q14, hF⟩ := kBd_el hF
    refine kcv_I (pc := 81) (As := [.ref (A lMo), .int 0, .int 1]) (st := []) (A := A) (T := T) (r := r12) (M1 := M13) i_116_81 m_7_145 rfl rfl rfl rfl (rd_Mo R) rfl (Nat.le_of_ble_eq_true rfl) (hC ▸ D_113 R q14) (fun h R => ?_)
    refine k_istore_n (pc := 84) (lo2 := [some (.ref (A lMo)), some (.int a1), some (.int r12), b3, b4]) i_116_84 (Nat.le_of_ble_eq_true rfl) rfl ?_
    exact W_116_85 (d := d) hC R K hF
noncomputable def F_116_67 (T : kT) (a1 : Int32) (M : kM) : Option (Unit × kM) :=
  kBd (F_114 T  M) (fun r8 M9 => F_116_72 T a1 M9)
set_option maxHeartbeats 1000000 in
theorem W_116_67 {G : kG} {d : Nat} {A : kLb → Nat} {C : kCl} {P : kO → kH → Prop} {T : kT} {M : kM} {h : kH} {a1 : Int32} {b2 b3 b4 : Option Value} {z : (Unit × kM)} (hC : C = kRun G (d + 3)) (R : kRl A T M h) (K : (fun z : (Unit × kM) => ∀ h1, kRl A T z.2 h1 → P (.inl none) h1) z) (hF : F_116_67 T a1 M = some z) : kWP G 116 C P 67 [some (.ref (A lMo)), some (.int a1), b2, b3, b4] [] h 0 0 := by
  unfold F_116_67 at hF
  refine k_aload_n (pc := 67) i_116_67 rfl rfl ?_
  obtain ⟨r8, M9, q10, hF⟩ := kBd_el hF
  refine kcv_I (pc := 68) (As := [.ref (A lMo)]) (st := []) (A := A) (T := T) (r := r8) (M1 := M9) i_116_68 m_7_163 rfl rfl rfl rfl (rd_Mo R) rfl (Nat.le_of_ble_eq_true rfl) (hC ▸ D_114 R q10) (fun h R => ?_)
  refine k_istore_n (pc := 71) (lo2 := [some (.ref (A lMo)), some (.int a1), some (.int r8), b3, b4]) i_116_71 (Nat.le_of_ble_eq_true rfl) rfl ?_
  exact W_116_72 (d := d) hC R K hF
noncomputable def F_116_57 (T : kT) (a1 : Int32) (M : kM) : Option (Unit × kM) :=
  if a1 = 1 then (F_116_67 T a1 M) else (if a1 = 4 then (F_116_67 T a1 M) else (F_116_72 T a1 M))
set_option maxHeartbeats 1000000 in
theorem W_116_57 {G : kG} {d : Nat} {A : kLb → Nat} {C : kCl} {P : kO → kH → Prop} {T : kT} {M : kM} {h : kH} {a1 : Int32} {b2 b3 b4 : Option Value} {z : (Unit × kM)} (hC : C = kRun G (d + 3)) (R : kRl A T M h) (K : (fun z : (Unit × kM) => ∀ h1, kRl A T z.2 h1 → P (.inl none) h1) z) (hF : F_116_57 T a1 M = some z) : kWP G 116 C P 57 [some (.ref (A lMo)), some (.int a1), b2, b3, b4] [] h 0 0 := by
  unfold F_116_57 at hF
  refine k_iload_n (pc := 57) i_116_57 rfl ?_
  refine k_iconst (pc := 58) (v := 1) i_116_58 (by decide) ?_
  refine k_icmp_eq (pc := 59) (tgt := 67) i_116_59 (by decide) (fun c7 => ?_) (fun c7 => ?_)
  · rw [if_pos c7] at hF
    exact W_116_67 (d := d) hC R K hF
  · rw [if_neg c7] at hF
    refine k_iload_n (pc := 62) i_116_62 rfl ?_
    refine k_iconst (pc := 63) (v := 4) i_116_63 (by decide) ?_
    refine k_icmp_ne (pc := 64) (tgt := 72) i_116_64 (by decide) (fun c8 => ?_) (fun c8 => ?_)
    · rw [if_neg c8] at hF
      exact W_116_72 (d := d) hC R K hF
    · rw [if_pos c8] at hF
      exact W_116_67 (d := d) hC R K hF
noncomputable def F_116_45 (T : kT) (a1 : Int32) (M : kM) : Option (Unit × kM) :=
  if a1 = 1 then (kBd (F_113 T 0 5 M) (fun r7 M8 => F_116_57 T a1 M8)) else (F_116_57 T a1 M)
set_option maxHeartbeats 1000000 in
theorem W_116_45 {G : kG} {d : Nat} {A : kLb → Nat} {C : kCl} {P : kO → kH → Prop} {T : kT} {M : kM} {h : kH} {a1 : Int32} {b2 b3 b4 : Option Value} {z : (Unit × kM)} (hC : C = kRun G (d + 3)) (R : kRl A T M h) (K : (fun z : (Unit × kM) => ∀ h1, kRl A T z.2 h1 → P (.inl none) h1) z) (hF : F_116_45 T a1 M = some z) : kWP G 116 C P 45 [some (.ref (A lMo)), some (.int a1), b2, b3, b4] [] h 0 0 := by
  unfold F_116_45 at hF
  refine k_iload_n (pc := 45) i_116_45 rfl ?_
  refine k_iconst (pc := 46) (v := 1) i_116_46 (by decide) ?_
  refine k_icmp_ne (pc := 47) (tgt := 57) i_116_47 (by decide) (fun c6 => ?_) (fun c6 => ?_)
  · rw [if_neg c6] at hF
    exact W_116_57 (d := d) hC R K hF
  · rw [if_pos c6] at hF
    refine k_aload_n (pc := 50) i_116_50 rfl rfl ?_
    refine k_iconst (pc := 51) (v := 0) i_116_51 (by decide) ?_
    refine k_iconst (pc := 52) (v := 5) i_116_52 (by decide) ?_
    obtain ⟨r7, M8, q9, hF⟩ := kBd_el hF
    refine kcv_I (pc := 53) (As := [.ref (A lMo), .int 0, .int 5]) (st := []) (A := A) (T := T) (r := r7) (M1 := M8) i_116_53 m_7_145 rfl rfl rfl rfl (rd_Mo R) rfl (Nat.le_of_ble_eq_true rfl) (hC ▸ D_113 R q9) (fun h R => ?_)
    refine k_istore_n (pc := 56) (lo2 := [some (.ref (A lMo)), some (.int a1), some (.int r7), b3, b4]) i_116_56 (Nat.le_of_ble_eq_true rfl) rfl ?_
    exact W_116_57 (d := d) hC R K hF
noncomputable def F_116_40 (T : kT) (a1 : Int32) (M : kM) : Option (Unit × kM) :=
  kBd (F_114 T  M) (fun r3 M4 => F_116_45 T a1 M4)
set_option maxHeartbeats 1000000 in
theorem W_116_40 {G : kG} {d : Nat} {A : kLb → Nat} {C : kCl} {P : kO → kH → Prop} {T : kT} {M : kM} {h : kH} {a1 : Int32} {b2 b3 b4 : Option Value} {z : (Unit × kM)} (hC : C = kRun G (d + 3)) (R : kRl A T M h) (K : (fun z : (Unit × kM) => ∀ h1, kRl A T z.2 h1 → P (.inl none) h1) z) (hF : F_116_40 T a1 M = some z) : kWP G 116 C P 40 [some (.ref (A lMo)), some (.int a1), b2, b3, b4] [] h 0 0 := by
  unfold F_116_40 at hF
  refine k_aload_n (pc := 40) i_116_40 rfl rfl ?_
  obtain ⟨r3, M4, q5, hF⟩ := kBd_el hF
  refine kcv_I (pc := 41) (As := [.ref (A lMo)]) (st := []) (A := A) (T := T) (r := r3) (M1 := M4) i_116_41 m_7_163 rfl rfl rfl rfl (rd_Mo R) rfl (Nat.le_of_ble_eq_true rfl) (hC ▸ D_114 R q5) (fun h R => ?_)
  refine k_istore_n (pc := 44) (lo2 := [some (.ref (A lMo)), some (.int a1), some (.int r3), b3, b4]) i_116_44 (Nat.le_of_ble_eq_true rfl) rfl ?_
  exact W_116_45 (d := d) hC R K hF
noncomputable def F_116_18 (T : kT) (a1 : Int32) (M : kM) : Option (Unit × kM) :=
  if a1 = 1 then (F_116_40 T a1 M) else (if a1 = 4 then (F_116_40 T a1 M) else (if a1 = 7 then (F_116_40 T a1 M) else (if a1 = 10 then (F_116_40 T a1 M) else (F_116_45 T a1 M))))
set_option maxHeartbeats 1000000 in
theorem W_116_18 {G : kG} {d : Nat} {A : kLb → Nat} {C : kCl} {P : kO → kH → Prop} {T : kT} {M : kM} {h : kH} {a1 : Int32} {b2 b3 b4 : Option Value} {z : (Unit × kM)} (hC : C = kRun G (d + 3)) (R : kRl A T M h) (K : (fun z : (Unit × kM) => ∀ h1, kRl A T z.2 h1 → P (.inl none) h1) z) (hF : F_116_18 T a1 M = some z) : kWP G 116 C P 18 [some (.ref (A lMo)), some (.int a1), b2, b3, b4] [] h 0 0 := by
  unfold F_116_18 at hF
  refine k_iload_n (pc := 18) i_116_18 rfl ?_
  refine k_iconst (pc := 19) (v := 1) i_116_19 (by decide) ?_
  refine k_icmp_eq (pc := 20) (tgt := 40) i_116_20 (by decide) (fun c2 => ?_) (fun c2 => ?_)
  · rw [if_pos c2] at hF
    exact W_116_40 (d := d) hC R K hF
  · rw [if_neg c2] at hF
    refine k_iload_n (pc := 23) i_116_23 rfl ?_
    refine k_iconst (pc := 24) (v := 4) i_116_24 (by decide) ?_
    refine k_icmp_eq (pc := 25) (tgt := 40) i_116_25 (by decide) (fun c3 => ?_) (fun c3 => ?_)
    · rw [if_pos c3] at hF
      exact W_116_40 (d := d) hC R K hF
    · rw [if_neg c3] at hF
      refine k_iload_n (pc := 28) i_116_28 rfl ?_
      refine k_bipush (pc := 29) (v := 7) i_116_29 (by decide) ?_
      refine k_icmp_eq (pc := 31) (tgt := 40) i_116_31 (by decide) (fun c4 => ?_) (fun c4 => ?_)
      · rw [if_pos c4] at hF
        exact W_116_40 (d := d) hC R K hF
      · rw [if_neg c4] at hF
        refine k_iload_n (pc := 34) i_116_34 rfl ?_
        refine k_bipush (pc := 35) (v := 10) i_116_35 (by decide) ?_
        refine k_icmp_ne (pc := 37) (tgt := 45) i_116_37 (by decide) (fun c5 => ?_) (fun c5 => ?_)
        · rw [if_neg c5] at hF
          exact W_116_45 (d := d) hC R K hF
        · rw [if_pos c5] at hF
          exact W_116_40 (d := d) hC R K hF
noncomputable def F_116 (T : kT) (a1 : Int32) (M : kM) : Option (Unit × kM) :=
  if a1 = 0 then (kBd (F_113 T 0 ((gp M lMo 1) - 1) M) (fun r2 M3 => F_116_18 T a1 M3)) else (F_116_18 T a1 M)
set_option maxHeartbeats 1000000 in
theorem D_116 {G : kG} {d : Nat} {A : kLb → Nat} {T : kT} {M : kM} {h : kH} {a1 : Int32} {z : (Unit × kM)} (R : kRl A T M h) (hF : F_116 T a1 M = some z) : kRun G (d + 4) 116 [.ref (A lMo), .int a1] h 0 0 (kPV A T z) := by
  refine ⟨⟨rfl, Nat.le_of_ble_eq_true rfl⟩, ?_⟩
  show kWP _ _ (kRun G (d + 3)) _ 0 [some (.ref (A lMo)), some (.int a1), none, none, none] [] _ _ _
  have K : (fun z : (Unit × kM) => ∀ h1, kRl A T z.2 h1 → kPV A T z (.inl none) h1) z := fun _ q => ⟨rfl, q⟩
  unfold F_116 at hF
  refine k_iconst (pc := 0) (v := 0) i_116_0 (by decide) ?_
  refine k_istore_n (pc := 1) (lo2 := [some (.ref (A lMo)), some (.int a1), some (.int 0), none, none]) i_116_1 (Nat.le_of_ble_eq_true rfl) rfl ?_
  refine k_iload_n (pc := 2) i_116_2 rfl ?_
  refine k_if_ne (pc := 3) (tgt := 18) i_116_3 (by decide) (fun c1 => ?_) (fun c1 => ?_)
  · rw [if_neg c1] at hF
    exact W_116_18 (d := d) rfl R K hF
  · rw [if_pos c1] at hF
    refine k_aload_n (pc := 6) i_116_6 rfl rfl ?_
    refine k_iconst (pc := 7) (v := 0) i_116_7 (by decide) ?_
    refine k_aload_n (pc := 8) i_116_8 rfl rfl ?_
    refine k_getf (pc := 9) i_116_9 f_7_91 (rd_Mo R) rfl ?_
    refine k_iconst (pc := 12) (v := 1) i_116_12 (by decide) ?_
    refine k_isub (pc := 13) i_116_13 ?_
    obtain ⟨r2, M3, q4, hF⟩ := kBd_el hF
    refine kcv_I (pc := 14) (As := [.ref (A lMo), .int 0, .int ((gp M lMo 1) - 1)]) (st := []) (A := A) (T := T) (r := r2) (M1 := M3) i_116_14 m_7_145 rfl rfl rfl rfl (rd_Mo R) rfl (Nat.le_of_ble_eq_true rfl) (D_113 R q4) (fun h R => ?_)
    refine k_istore_n (pc := 17) (lo2 := [some (.ref (A lMo)), some (.int a1), some (.int r2), none, none]) i_116_17 (Nat.le_of_ble_eq_true rfl) rfl ?_
    exact W_116_18 (d := d) rfl R K hF
-- 117: RDModel told
noncomputable def F_117 (T : kT) (a1 : Int32) (a2 : Int32) (M : kM) : Option (Int32 × kM) :=
  kGx a1 60 (kGx ((gp M (lMa 17) a1.toNatClampNeg) + a2) 60 (some (gp M (lMa 13) ((gp M (lMa 17) a1.toNatClampNeg) + a2).toNatClampNeg, M)))
set_option maxHeartbeats 1000000 in
theorem D_117 {G : kG} {d : Nat} {A : kLb → Nat} {T : kT} {M : kM} {h : kH} {a1 : Int32} {a2 : Int32} {z : (Int32 × kM)} (R : kRl A T M h) (hF : F_117 T a1 a2 M = some z) : kRun G (d + 1) 117 [.ref (A lMo), .int a1, .int a2] h 0 0 (kPI A T z) := by
  refine ⟨⟨rfl, Nat.le_of_ble_eq_true rfl⟩, ?_⟩
  show kWP _ _ (kRun G (d + 0)) _ 0 [some (.ref (A lMo)), some (.int a1), some (.int a2)] [] _ _ _
  have K : (fun z : (Int32 × kM) => ∀ h1, kRl A T z.2 h1 → kPI A T z (.inl (some (.int z.1))) h1) z := fun _ q => ⟨rfl, q⟩
  unfold F_117 at hF
  refine k_aload_n (pc := 0) i_117_0 rfl rfl ?_
  refine k_getf (pc := 1) i_117_1 f_7_35 (rd_Mo R) rfl ?_
  refine k_aload_n (pc := 4) i_117_4 rfl rfl ?_
  refine k_getf (pc := 5) i_117_5 f_7_42 (rd_Mo R) rfl ?_
  refine k_iload_n (pc := 8) i_117_8 rfl ?_
  obtain ⟨g1, hF⟩ := kGx_el hF
  refine k_iald (pc := 9) i_117_9 (rd_Ma_17 R) g1 ?_
  refine k_iload_n (pc := 10) i_117_10 rfl ?_
  refine k_iadd (pc := 11) i_117_11 ?_
  obtain ⟨g2, hF⟩ := kGx_el hF
  refine k_iald (pc := 12) i_117_12 (rd_Ma_13 R) g2 ?_
  obtain rfl := Option.some.inj hF
  exact k_ireturn (pc := 13) i_117_13 rfl rfl (K _ R)
-- 118: RDModel kind
noncomputable def F_118 (T : kT) (a1 : Int32) (M : kM) : Option (Int32 × kM) :=
  kBd (F_117 T a1 0 M) (fun r1 M2 => some (r1, M2))
set_option maxHeartbeats 1000000 in
theorem D_118 {G : kG} {d : Nat} {A : kLb → Nat} {T : kT} {M : kM} {h : kH} {a1 : Int32} {z : (Int32 × kM)} (R : kRl A T M h) (hF : F_118 T a1 M = some z) : kRun G (d + 2) 118 [.ref (A lMo), .int a1] h 0 0 (kPI A T z) := by
  refine ⟨⟨rfl, Nat.le_of_ble_eq_true rfl⟩, ?_⟩
  show kWP _ _ (kRun G (d + 1)) _ 0 [some (.ref (A lMo)), some (.int a1)] [] _ _ _
  have K : (fun z : (Int32 × kM) => ∀ h1, kRl A T z.2 h1 → kPI A T z (.inl (some (.int z.1))) h1) z := fun _ q => ⟨rfl, q⟩
  unfold F_118 at hF
  refine k_aload_n (pc := 0) i_118_0 rfl rfl ?_
  refine k_iload_n (pc := 1) i_118_1 rfl ?_
  refine k_iconst (pc := 2) (v := 0) i_118_2 (by decide) ?_
  obtain ⟨r1, M2, q3, hF⟩ := kBd_el hF
  refine kcv_I (pc := 3) (As := [.ref (A lMo), .int a1, .int 0]) (st := []) (A := A) (T := T) (r := r1) (M1 := M2) i_118_3 m_7_166 rfl rfl rfl rfl (rd_Mo R) rfl (Nat.le_of_ble_eq_true rfl) (D_117 R q3) (fun h R => ?_)
  obtain rfl := Option.some.inj hF
  exact k_ireturn (pc := 6) i_118_6 rfl rfl (K _ R)
-- 119: RDModel looks
noncomputable def F_119_311 (T : kT) (a1 : Int32) (M : kM) : Option (Unit × kM) :=
  kGx a1 60 (kBd (F_112 T (gp M (lMa 17) a1.toNatClampNeg) M) (fun r28 M29 => some ((), M29)))
set_option maxHeartbeats 1000000 in
theorem W_119_311 {G : kG} {d : Nat} {A : kLb → Nat} {C : kCl} {P : kO → kH → Prop} {T : kT} {M : kM} {h : kH} {a1 : Int32} {b2 b3 b4 b5 b6 b7 : Option Value} {z : (Unit × kM)} (hC : C = kRun G (d + 1)) (R : kRl A T M h) (K : (fun z : (Unit × kM) => ∀ h1, kRl A T z.2 h1 → P (.inl none) h1) z) (hF : F_119_311 T a1 M = some z) : kWP G 119 C P 311 [some (.ref (A lMo)), some (.int a1), b2, b3, b4, b5, b6, b7] [] h 0 0 := by
  unfold F_119_311 at hF
  refine k_aload_n (pc := 311) i_119_311 rfl rfl ?_
  refine k_aload_n (pc := 312) i_119_312 rfl rfl ?_
  refine k_getf (pc := 313) i_119_313 f_7_42 (rd_Mo R) rfl ?_
  refine k_iload_n (pc := 316) i_119_316 rfl ?_
  obtain ⟨g27, hF⟩ := kGx_el hF
  refine k_iald (pc := 317) i_119_317 (rd_Ma_17 R) g27 ?_
  obtain ⟨r28, M29, q30, hF⟩ := kBd_el hF
  refine kcv_V (pc := 318) (As := [.ref (A lMo), .int (gp M (lMa 17) a1.toNatClampNeg)]) (st := []) (A := A) (T := T) (r := r28) (M1 := M29) i_119_318 m_7_139 rfl rfl rfl rfl (rd_Mo R) rfl (Nat.le_of_ble_eq_true rfl) (hC ▸ D_112 R q30) (fun h R => ?_)
  obtain rfl := Option.some.inj hF
  exact k_return (pc := 321) i_119_321 rfl (K _ R)
noncomputable def F_119_291 (T : kT) (a1 : Int32) (a5 : Int32) (a6 : Int32) (M : kM) : Option (Unit × kM) :=
  kGx a1 60 (if a5 = 0 then (F_119_311 T a1 (sp M (lMa 21) a1.toNatClampNeg a6)) else (if a6 ≤ 12 then (some ((), sp M (lMa 21) a1.toNatClampNeg a6)) else (F_119_311 T a1 (sp M (lMa 21) a1.toNatClampNeg a6))))
set_option maxHeartbeats 1000000 in
theorem W_119_291 {G : kG} {d : Nat} {A : kLb → Nat} {C : kCl} {P : kO → kH → Prop} {T : kT} {M : kM} {h : kH} {a1 : Int32} {a5 : Int32} {a6 : Int32} {b2 b3 b4 b7 : Option Value} {z : (Unit × kM)} (hC : C = kRun G (d + 1)) (R : kRl A T M h) (K : (fun z : (Unit × kM) => ∀ h1, kRl A T z.2 h1 → P (.inl none) h1) z) (hF : F_119_291 T a1 a5 a6 M = some z) : kWP G 119 C P 291 [some (.ref (A lMo)), some (.int a1), b2, b3, b4, some (.int a5), some (.int a6), b7] [] h 0 0 := by
  unfold F_119_291 at hF
  refine k_aload_n (pc := 291) i_119_291 rfl rfl ?_
  refine k_getf (pc := 292) i_119_292 f_7_54 (rd_Mo R) rfl ?_
  refine k_iload_n (pc := 295) i_119_295 rfl ?_
  refine k_iload (pc := 296) i_119_296 rfl ?_
  obtain ⟨g24, hF⟩ := kGx_el hF
  refine k_iast (pc := 298) i_119_298 (rd_Ma_21 R) g24 (fun h e25 => ?_)
  replace R := kRl_sp (l := (lMa 21)) (k := a1.toNatClampNeg) (v := a6) R rfl e25
  clear e25
  refine k_iload (pc := 299) i_119_299 rfl ?_
  refine k_if_eq (pc := 301) (tgt := 311) i_119_301 (by decide) (fun c26 => ?_) (fun c26 => ?_)
  · rw [if_pos c26] at hF
    exact W_119_311 (d := d) hC R K hF
  · rw [if_neg c26] at hF
    refine k_iload (pc := 304) i_119_304 rfl ?_
    refine k_bipush (pc := 306) (v := 12) i_119_306 (by decide) ?_
    refine k_icmp_le (pc := 308) (tgt := 321) i_119_308 (by decide) (fun c27 => ?_) (fun c27 => ?_)
    · rw [if_pos c27] at hF
      obtain rfl := Option.some.inj hF
      exact k_return (pc := 321) i_119_321 rfl (K _ R)
    · rw [if_neg c27] at hF
      exact W_119_311 (d := d) hC R K hF
noncomputable def B_119_247 (T : kT) (a1 : Int32) (a3 : Int32) (a5 : Int32) (a6 : Int32) (a7 : Int32) (M : kM) : Option ((Int32 × Int32 × kM) ⊕ (Unit × kM)) :=
  if a6 ≤ a7 then (kLf (F_119_291 T a1 a5 a6 M)) else (if a5 = 0 then (some (.inl (0, (a7 + 1), M))) else (kBd (F_117 T a1 (2 + a7) M) (fun r29 M30 => kBd (F_95 T r29 0 (a3 - 1) M30) (fun r32 M33 => if r32 = 0 then (some (.inl (0, (a7 + 1), M33))) else (some (.inl (1, (a7 + 1), M33)))))))
noncomputable def F_119_247 (T : kT) (a1 : Int32) (a3 : Int32) (a5 : Int32) (a6 : Int32) (a7 : Int32) (M : kM) : Option (Unit × kM) :=
  kWh (fun w : (Int32 × Int32 × kM) => B_119_247 T a1 a3 w.1 a6 w.2.1 w.2.2) (a5, a7, M)
theorem F_119_247_eq (T : kT) (a1 : Int32) (a3 : Int32) (a5 : Int32) (a6 : Int32) (a7 : Int32) (M : kM) : F_119_247 T a1 a3 a5 a6 a7 M = kAg (B_119_247 T a1 a3 a5 a6 a7 M) (fun w => F_119_247 T a1 a3 w.1 a6 w.2.1 w.2.2) := by
  unfold F_119_247
  rw [kWh_eq]
set_option maxHeartbeats 1000000 in
theorem W_119_247 {G : kG} {d : Nat} {A : kLb → Nat} {C : kCl} {P : kO → kH → Prop} {T : kT} {M : kM} {h : kH} {a1 : Int32} {a3 : Int32} {a5 : Int32} {a6 : Int32} {a7 : Int32} {b2 b4 : Option Value} {z : (Unit × kM)} (hC : C = kRun G (d + 1)) (R : kRl A T M h) (K : (fun z : (Unit × kM) => ∀ h1, kRl A T z.2 h1 → P (.inl none) h1) z) (hF : F_119_247 T a1 a3 a5 a6 a7 M = some z) : kWP G 119 C P 247 [some (.ref (A lMo)), some (.int a1), b2, some (.int a3), b4, some (.int a5), some (.int a6), some (.int a7)] [] h 0 0 := by
  refine kWh_ind (P := (fun w : (Int32 × Int32 × kM) => ∀ (h : kH) (b2 b4 : Option Value), kRl A T w.2.2 h → kWP G 119 C P 247 [some (.ref (A lMo)), some (.int a1), b2, some (.int a3), b4, some (.int w.1), some (.int a6), some (.int w.2.1)] [] h 0 0)) (Q := (fun z : (Unit × kM) => ∀ h1, kRl A T z.2 h1 → P (.inl none) h1)) hF K ?_ h _ _ R
  clear hF K R
  intro w z hF K h b2 b4 R
  obtain ⟨a5, a7, M⟩ := w
  change B_119_247 T a1 a3 a5 a6 a7 M = some z at hF
  change kWP G 119 C P 247 [some (.ref (A lMo)), some (.int a1), b2, some (.int a3), b4, some (.int a5), some (.int a6), some (.int a7)] [] h 0 0
  unfold B_119_247 at hF
  refine k_iload (pc := 247) i_119_247 rfl ?_
  refine k_iload (pc := 249) i_119_249 rfl ?_
  refine k_icmp_ge (pc := 251) (tgt := 291) i_119_251 (by decide) (fun c27 => ?_) (fun c27 => ?_)
  · rw [if_pos c27] at hF
    obtain ⟨z, hG, rfl⟩ := kLf_el hF
    replace hF := hG
    clear hG
    exact W_119_291 (d := d) hC R K hF
  · rw [if_neg c27] at hF
    refine k_iload (pc := 254) i_119_254 rfl ?_
    refine k_if_eq (pc := 256) (tgt := 282) i_119_256 (by decide) (fun c28 => ?_) (fun c28 => ?_)
    · rw [if_pos c28] at hF
      refine k_iconst (pc := 282) (v := 0) i_119_282 (by decide) ?_
      refine k_istore (pc := 283) (lo2 := [some (.ref (A lMo)), some (.int a1), b2, some (.int a3), b4, some (.int 0), some (.int a6), some (.int a7)]) i_119_283 (Nat.le_of_ble_eq_true rfl) rfl ?_
      refine k_iinc (pc := 285) (v := a7 + 1) (lo2 := [some (.ref (A lMo)), some (.int a1), b2, some (.int a3), b4, some (.int 0), some (.int a6), some (.int (a7 + 1))]) i_119_285 rfl rfl rfl ?_
      refine k_goto (pc := 288) (tgt := 247) i_119_288 (by decide) ?_
      obtain rfl := Option.some.inj hF
      exact K _ _ _ R
    · rw [if_neg c28] at hF
      refine k_aload_n (pc := 259) i_119_259 rfl rfl ?_
      refine k_iload_n (pc := 260) i_119_260 rfl ?_
      refine k_iconst (pc := 261) (v := 2) i_119_261 (by decide) ?_
      refine k_iload (pc := 262) i_119_262 rfl ?_
      refine k_iadd (pc := 264) i_119_264 ?_
      obtain ⟨r29, M30, q31, hF⟩ := kBd_el hF
      refine kcv_I (pc := 265) (As := [.ref (A lMo), .int a1, .int (2 + a7)]) (st := []) (A := A) (T := T) (r := r29) (M1 := M30) i_119_265 m_7_166 rfl rfl rfl rfl (rd_Mo R) rfl (Nat.le_of_ble_eq_true rfl) (hC ▸ D_117 R q31) (fun h R => ?_)
      refine k_iconst (pc := 268) (v := 0) i_119_268 (by decide) ?_
      refine k_iload_n (pc := 269) i_119_269 rfl ?_
      refine k_iconst (pc := 270) (v := 1) i_119_270 (by decide) ?_
      refine k_isub (pc := 271) i_119_271 ?_
      obtain ⟨r32, M33, q34, hF⟩ := kBd_el hF
      refine kcs_I (pc := 272) (As := [.int r29, .int 0, .int (a3 - 1)]) (st := []) (A := A) (T := T) (r := r32) (M1 := M33) i_119_272 m_7_94 rfl rfl rfl (Nat.le_of_ble_eq_true rfl) (hC ▸ D_95 R q34) (fun h R => ?_)
      refine k_if_eq (pc := 275) (tgt := 282) i_119_275 (by decide) (fun c35 => ?_) (fun c35 => ?_)
      · rw [if_pos c35] at hF
        refine k_iconst (pc := 282) (v := 0) i_119_282 (by decide) ?_
        refine k_istore (pc := 283) (lo2 := [some (.ref (A lMo)), some (.int a1), b2, some (.int a3), b4, some (.int 0), some (.int a6), some (.int a7)]) i_119_283 (Nat.le_of_ble_eq_true rfl) rfl ?_
        refine k_iinc (pc := 285) (v := a7 + 1) (lo2 := [some (.ref (A lMo)), some (.int a1), b2, some (.int a3), b4, some (.int 0), some (.int a6), some (.int (a7 + 1))]) i_119_285 rfl rfl rfl ?_
        refine k_goto (pc := 288) (tgt := 247) i_119_288 (by decide) ?_
        obtain rfl := Option.some.inj hF
        exact K _ _ _ R
      · rw [if_neg c35] at hF
        refine k_iconst (pc := 278) (v := 1) i_119_278 (by decide) ?_
        refine k_goto (pc := 279) (tgt := 283) i_119_279 (by decide) ?_
        refine k_istore (pc := 283) (lo2 := [some (.ref (A lMo)), some (.int a1), b2, some (.int a3), b4, some (.int 1), some (.int a6), some (.int a7)]) i_119_283 (Nat.le_of_ble_eq_true rfl) rfl ?_
        refine k_iinc (pc := 285) (v := a7 + 1) (lo2 := [some (.ref (A lMo)), some (.int a1), b2, some (.int a3), b4, some (.int 1), some (.int a6), some (.int (a7 + 1))]) i_119_285 rfl rfl rfl ?_
        refine k_goto (pc := 288) (tgt := 247) i_119_288 (by decide) ?_
        obtain rfl := Option.some.inj hF
        exact K _ _ _ R
noncomputable def F_119_231 (T : kT) (a1 : Int32) (a2 : Int32) (a3 : Int32) (a5 : Int32) (a6 : Int32) (M : kM) : Option (Unit × kM) :=
  if a2 = 2 then (kBd (F_117 T a1 1 M) (fun r24 M25 => F_119_247 T a1 a3 a5 r24 0 M25)) else (F_119_291 T a1 a5 a6 M)
set_option maxHeartbeats 1000000 in
theorem W_119_231 {G : kG} {d : Nat} {A : kLb → Nat} {C : kCl} {P : kO → kH → Prop} {T : kT} {M : kM} {h : kH} {a1 : Int32} {a2 : Int32} {a3 : Int32} {a5 : Int32} {a6 : Int32} {b4 b7 : Option Value} {z : (Unit × kM)} (hC : C = kRun G (d + 1)) (R : kRl A T M h) (K : (fun z : (Unit × kM) => ∀ h1, kRl A T z.2 h1 → P (.inl none) h1) z) (hF : F_119_231 T a1 a2 a3 a5 a6 M = some z) : kWP G 119 C P 231 [some (.ref (A lMo)), some (.int a1), some (.int a2), some (.int a3), b4, some (.int a5), some (.int a6), b7] [] h 0 0 := by
  unfold F_119_231 at hF
  refine k_iload_n (pc := 231) i_119_231 rfl ?_
  refine k_iconst (pc := 232) (v := 2) i_119_232 (by decide) ?_
  refine k_icmp_ne (pc := 233) (tgt := 291) i_119_233 (by decide) (fun c23 => ?_) (fun c23 => ?_)
  · rw [if_neg c23] at hF
    exact W_119_291 (d := d) hC R K hF
  · rw [if_pos c23] at hF
    refine k_aload_n (pc := 236) i_119_236 rfl rfl ?_
    refine k_iload_n (pc := 237) i_119_237 rfl ?_
    refine k_iconst (pc := 238) (v := 1) i_119_238 (by decide) ?_
    obtain ⟨r24, M25, q26, hF⟩ := kBd_el hF
    refine kcv_I (pc := 239) (As := [.ref (A lMo), .int a1, .int 1]) (st := []) (A := A) (T := T) (r := r24) (M1 := M25) i_119_239 m_7_166 rfl rfl rfl rfl (rd_Mo R) rfl (Nat.le_of_ble_eq_true rfl) (hC ▸ D_117 R q26) (fun h R => ?_)
    refine k_istore (pc := 242) (lo2 := [some (.ref (A lMo)), some (.int a1), some (.int a2), some (.int a3), b4, some (.int a5), some (.int r24), b7]) i_119_242 (Nat.le_of_ble_eq_true rfl) rfl ?_
    refine k_iconst (pc := 244) (v := 0) i_119_244 (by decide) ?_
    refine k_istore (pc := 245) (lo2 := [some (.ref (A lMo)), some (.int a1), some (.int a2), some (.int a3), b4, some (.int a5), some (.int r24), some (.int 0)]) i_119_245 (Nat.le_of_ble_eq_true rfl) rfl ?_
    exact W_119_247 (d := d) hC R K hF
noncomputable def F_119_222 (T : kT) (a1 : Int32) (a2 : Int32) (a3 : Int32) (a5 : Int32) (a6 : Int32) (M : kM) : Option (Unit × kM) :=
  if a2 = 10 then (F_119_231 T a1 a2 a3 a5 2 M) else (F_119_231 T a1 a2 a3 a5 a6 M)
set_option maxHeartbeats 1000000 in
theorem W_119_222 {G : kG} {d : Nat} {A : kLb → Nat} {C : kCl} {P : kO → kH → Prop} {T : kT} {M : kM} {h : kH} {a1 : Int32} {a2 : Int32} {a3 : Int32} {a5 : Int32} {a6 : Int32} {b4 b7 : Option Value} {z : (Unit × kM)} (hC : C = kRun G (d + 1)) (R : kRl A T M h) (K : (fun z : (Unit × kM) => ∀ h1, kRl A T z.2 h1 → P (.inl none) h1) z) (hF : F_119_222 T a1 a2 a3 a5 a6 M = some z) : kWP G 119 C P 222 [some (.ref (A lMo)), some (.int a1), some (.int a2), some (.int a3), b4, some (.int a5), some (.int a6), b7] [] h 0 0 := by
  unfold F_119_222 at hF
  refine k_iload_n (pc := 222) i_119_222 rfl ?_
  refine k_bipush (pc := 223) (v := 10) i_119_223 (by decide) ?_
  refine k_icmp_ne (pc := 225) (tgt := 231) i_119_225 (by decide) (fun c22 => ?_) (fun c22 => ?_)
  · rw [if_neg c22] at hF
    exact W_119_231 (d := d) hC R K hF
  · rw [if_pos c22] at hF
    refine k_iconst (pc := 228) (v := 2) i_119_228 (by decide) ?_
    refine k_istore (pc := 229) (lo2 := [some (.ref (A lMo)), some (.int a1), some (.int a2), some (.int a3), b4, some (.int a5), some (.int 2), b7]) i_119_229 (Nat.le_of_ble_eq_true rfl) rfl ?_
    exact W_119_231 (d := d) hC R K hF
noncomputable def F_119_213 (T : kT) (a1 : Int32) (a2 : Int32) (a3 : Int32) (a5 : Int32) (a6 : Int32) (M : kM) : Option (Unit × kM) :=
  if a2 = 9 then (F_119_222 T a1 a2 a3 a5 1 M) else (F_119_222 T a1 a2 a3 a5 a6 M)
set_option maxHeartbeats 1000000 in
theorem W_119_213 {G : kG} {d : Nat} {A : kLb → Nat} {C : kCl} {P : kO → kH → Prop} {T : kT} {M : kM} {h : kH} {a1 : Int32} {a2 : Int32} {a3 : Int32} {a5 : Int32} {a6 : Int32} {b4 b7 : Option Value} {z : (Unit × kM)} (hC : C = kRun G (d + 1)) (R : kRl A T M h) (K : (fun z : (Unit × kM) => ∀ h1, kRl A T z.2 h1 → P (.inl none) h1) z) (hF : F_119_213 T a1 a2 a3 a5 a6 M = some z) : kWP G 119 C P 213 [some (.ref (A lMo)), some (.int a1), some (.int a2), some (.int a3), b4, some (.int a5), some (.int a6), b7] [] h 0 0 := by
  unfold F_119_213 at hF
  refine k_iload_n (pc := 213) i_119_213 rfl ?_
  refine k_bipush (pc := 214) (v := 9) i_119_214 (by decide) ?_
  refine k_icmp_ne (pc := 216) (tgt := 222) i_119_216 (by decide) (fun c21 => ?_) (fun c21 => ?_)
  · rw [if_neg c21] at hF
    exact W_119_222 (d := d) hC R K hF
  · rw [if_pos c21] at hF
    refine k_iconst (pc := 219) (v := 1) i_119_219 (by decide) ?_
    refine k_istore (pc := 220) (lo2 := [some (.ref (A lMo)), some (.int a1), some (.int a2), some (.int a3), b4, some (.int a5), some (.int 1), b7]) i_119_220 (Nat.le_of_ble_eq_true rfl) rfl ?_
    exact W_119_222 (d := d) hC R K hF
noncomputable def F_119_197 (T : kT) (a1 : Int32) (a2 : Int32) (a3 : Int32) (a4 : Int32) (a5 : Int32) (a6 : Int32) (M : kM) : Option (Unit × kM) :=
  if a2 = 3 then (F_119_213 T a1 a2 a3 a5 (a3 + a4) M) else (if a2 = 4 then (F_119_213 T a1 a2 a3 a5 (a3 + a4) M) else (F_119_213 T a1 a2 a3 a5 a6 M))
set_option maxHeartbeats 1000000 in
theorem W_119_197 {G : kG} {d : Nat} {A : kLb → Nat} {C : kCl} {P : kO → kH → Prop} {T : kT} {M : kM} {h : kH} {a1 : Int32} {a2 : Int32} {a3 : Int32} {a4 : Int32} {a5 : Int32} {a6 : Int32} {b7 : Option Value} {z : (Unit × kM)} (hC : C = kRun G (d + 1)) (R : kRl A T M h) (K : (fun z : (Unit × kM) => ∀ h1, kRl A T z.2 h1 → P (.inl none) h1) z) (hF : F_119_197 T a1 a2 a3 a4 a5 a6 M = some z) : kWP G 119 C P 197 [some (.ref (A lMo)), some (.int a1), some (.int a2), some (.int a3), some (.int a4), some (.int a5), some (.int a6), b7] [] h 0 0 := by
  unfold F_119_197 at hF
  refine k_iload_n (pc := 197) i_119_197 rfl ?_
  refine k_iconst (pc := 198) (v := 3) i_119_198 (by decide) ?_
  refine k_icmp_eq (pc := 199) (tgt := 207) i_119_199 (by decide) (fun c20 => ?_) (fun c20 => ?_)
  · rw [if_pos c20] at hF
    refine k_iload_n (pc := 207) i_119_207 rfl ?_
    refine k_iload (pc := 208) i_119_208 rfl ?_
    refine k_iadd (pc := 210) i_119_210 ?_
    refine k_istore (pc := 211) (lo2 := [some (.ref (A lMo)), some (.int a1), some (.int a2), some (.int a3), some (.int a4), some (.int a5), some (.int (a3 + a4)), b7]) i_119_211 (Nat.le_of_ble_eq_true rfl) rfl ?_
    exact W_119_213 (d := d) hC R K hF
  · rw [if_neg c20] at hF
    refine k_iload_n (pc := 202) i_119_202 rfl ?_
    refine k_iconst (pc := 203) (v := 4) i_119_203 (by decide) ?_
    refine k_icmp_ne (pc := 204) (tgt := 213) i_119_204 (by decide) (fun c21 => ?_) (fun c21 => ?_)
    · rw [if_neg c21] at hF
      exact W_119_213 (d := d) hC R K hF
    · rw [if_pos c21] at hF
      refine k_iload_n (pc := 207) i_119_207 rfl ?_
      refine k_iload (pc := 208) i_119_208 rfl ?_
      refine k_iadd (pc := 210) i_119_210 ?_
      refine k_istore (pc := 211) (lo2 := [some (.ref (A lMo)), some (.int a1), some (.int a2), some (.int a3), some (.int a4), some (.int a5), some (.int (a3 + a4)), b7]) i_119_211 (Nat.le_of_ble_eq_true rfl) rfl ?_
      exact W_119_213 (d := d) hC R K hF
noncomputable def F_119_179 (T : kT) (a1 : Int32) (a2 : Int32) (a3 : Int32) (a4 : Int32) (a5 : Int32) (a6 : Int32) (M : kM) : Option (Unit × kM) :=
  if a2 = 5 then (if a3 = a4 then (F_119_197 T a1 a2 a3 a4 1 a6 M) else (F_119_197 T a1 a2 a3 a4 0 a6 M)) else (F_119_197 T a1 a2 a3 a4 a5 a6 M)
set_option maxHeartbeats 1000000 in
theorem W_119_179 {G : kG} {d : Nat} {A : kLb → Nat} {C : kCl} {P : kO → kH → Prop} {T : kT} {M : kM} {h : kH} {a1 : Int32} {a2 : Int32} {a3 : Int32} {a4 : Int32} {a5 : Int32} {a6 : Int32} {b7 : Option Value} {z : (Unit × kM)} (hC : C = kRun G (d + 1)) (R : kRl A T M h) (K : (fun z : (Unit × kM) => ∀ h1, kRl A T z.2 h1 → P (.inl none) h1) z) (hF : F_119_179 T a1 a2 a3 a4 a5 a6 M = some z) : kWP G 119 C P 179 [some (.ref (A lMo)), some (.int a1), some (.int a2), some (.int a3), some (.int a4), some (.int a5), some (.int a6), b7] [] h 0 0 := by
  unfold F_119_179 at hF
  refine k_iload_n (pc := 179) i_119_179 rfl ?_
  refine k_iconst (pc := 180) (v := 5) i_119_180 (by decide) ?_
  refine k_icmp_ne (pc := 181) (tgt := 197) i_119_181 (by decide) (fun c19 => ?_) (fun c19 => ?_)
  · rw [if_neg c19] at hF
    exact W_119_197 (d := d) hC R K hF
  · rw [if_pos c19] at hF
    refine k_iload_n (pc := 184) i_119_184 rfl ?_
    refine k_iload (pc := 185) i_119_185 rfl ?_
    refine k_icmp_ne (pc := 187) (tgt := 194) i_119_187 (by decide) (fun c20 => ?_) (fun c20 => ?_)
    · rw [if_neg c20] at hF
      refine k_iconst (pc := 194) (v := 0) i_119_194 (by decide) ?_
      refine k_istore (pc := 195) (lo2 := [some (.ref (A lMo)), some (.int a1), some (.int a2), some (.int a3), some (.int a4), some (.int 0), some (.int a6), b7]) i_119_195 (Nat.le_of_ble_eq_true rfl) rfl ?_
      exact W_119_197 (d := d) hC R K hF
    · rw [if_pos c20] at hF
      refine k_iconst (pc := 190) (v := 1) i_119_190 (by decide) ?_
      refine k_goto (pc := 191) (tgt := 195) i_119_191 (by decide) ?_
      refine k_istore (pc := 195) (lo2 := [some (.ref (A lMo)), some (.int a1), some (.int a2), some (.int a3), some (.int a4), some (.int 1), some (.int a6), b7]) i_119_195 (Nat.le_of_ble_eq_true rfl) rfl ?_
      exact W_119_197 (d := d) hC R K hF
noncomputable def F_119_145 (T : kT) (a1 : Int32) (a2 : Int32) (a3 : Int32) (a4 : Int32) (a5 : Int32) (a6 : Int32) (M : kM) : Option (Unit × kM) :=
  if a2 = 10 then (if a5 = 0 then (F_119_179 T a1 a2 a3 a4 0 a6 M) else (kBd (F_117 T a1 3 M) (fun r20 M21 => kBd (F_95 T r20 0 (a3 - 1) M21) (fun r23 M24 => if r23 = 0 then (F_119_179 T a1 a2 a3 a4 0 a6 M24) else (F_119_179 T a1 a2 a3 a4 1 a6 M24))))) else (F_119_179 T a1 a2 a3 a4 a5 a6 M)
set_option maxHeartbeats 1000000 in
theorem W_119_145 {G : kG} {d : Nat} {A : kLb → Nat} {C : kCl} {P : kO → kH → Prop} {T : kT} {M : kM} {h : kH} {a1 : Int32} {a2 : Int32} {a3 : Int32} {a4 : Int32} {a5 : Int32} {a6 : Int32} {b7 : Option Value} {z : (Unit × kM)} (hC : C = kRun G (d + 1)) (R : kRl A T M h) (K : (fun z : (Unit × kM) => ∀ h1, kRl A T z.2 h1 → P (.inl none) h1) z) (hF : F_119_145 T a1 a2 a3 a4 a5 a6 M = some z) : kWP G 119 C P 145 [some (.ref (A lMo)), some (.int a1), some (.int a2), some (.int a3), some (.int a4), some (.int a5), some (.int a6), b7] [] h 0 0 := by
  unfold F_119_145 at hF
  refine k_iload_n (pc := 145) i_119_145 rfl ?_
  refine k_bipush (pc := 146) (v := 10) i_119_146 (by decide) ?_
  refine k_icmp_ne (pc := 148) (tgt := 179) i_119_148 (by decide) (fun c18 => ?_) (fun c18 => ?_)
  · rw [if_neg c18] at hF
    exact W_119_179 (d := d) hC R K hF
  · rw [if_pos c18] at hF
    refine k_iload (pc := 151) i_119_151 rfl ?_
    refine k_if_eq (pc := 153) (tgt := 176) i_119_153 (by decide) (fun c19 => ?_) (fun c19 => ?_)
    · rw [if_pos c19] at hF
      refine k_iconst (pc := 176) (v := 0) i_119_176 (by decide) ?_
      refine k_istore (pc := 177) (lo2 := [some (.ref (A lMo)), some (.int a1), some (.int a2), some (.int a3), some (.int a4), some (.int 0), some (.int a6), b7]) i_119_177 (Nat.le_of_ble_eq_true rfl) rfl ?_
      exact W_119_179 (d := d) hC R K hF
    · rw [if_neg c19] at hF
      refine k_aload_n (pc := 156) i_119_156 rfl rfl ?_
      refine k_iload_n (pc := 157) i_119_157 rfl ?_
      refine k_iconst (pc := 158) (v := 3) i_119_158 (by decide) ?_
      obtain ⟨r20, M21, q22, hF⟩ := kBd_el hF
      refine kcv_I (pc := 159) (As := [.ref (A lMo), .int a1, .int 3]) (st := []) (A := A) (T := T) (r := r20) (M1 := M21) i_119_159 m_7_166 rfl rfl rfl rfl (rd_Mo R) rfl (Nat.le_of_ble_eq_true rfl) (hC ▸ D_117 R q22) (fun h R => ?_)
      refine k_iconst (pc := 162) (v := 0) i_119_162 (by decide) ?_
      refine k_iload_n (pc := 163) i_119_163 rfl ?_
      refine k_iconst (pc := 164) (v := 1) i_119_164 (by decide) ?_
      refine k_isub (pc := 165) i_119_165 ?_
      obtain ⟨r23, M24, q25, hF⟩ := kBd_el hF
      refine kcs_I (pc := 166) (As := [.int r20, .int 0, .int (a3 - 1)]) (st := []) (A := A) (T := T) (r := r23) (M1 := M24) i_119_166 m_7_94 rfl rfl rfl (Nat.le_of_ble_eq_true rfl) (hC ▸ D_95 R q25) (fun h R => ?_)
      refine k_if_eq (pc := 169) (tgt := 176) i_119_169 (by decide) (fun c26 => ?_) (fun c26 => ?_)
      · rw [if_pos c26] at hF
        refine k_iconst (pc := 176) (v := 0) i_119_176 (by decide) ?_
        refine k_istore (pc := 177) (lo2 := [some (.ref (A lMo)), some (.int a1), some (.int a2), some (.int a3), some (.int a4), some (.int 0), some (.int a6), b7]) i_119_177 (Nat.le_of_ble_eq_true rfl) rfl ?_
        exact W_119_179 (d := d) hC R K hF
      · rw [if_neg c26] at hF
        refine k_iconst (pc := 172) (v := 1) i_119_172 (by decide) ?_
        refine k_goto (pc := 173) (tgt := 177) i_119_173 (by decide) ?_
        refine k_istore (pc := 177) (lo2 := [some (.ref (A lMo)), some (.int a1), some (.int a2), some (.int a3), some (.int a4), some (.int 1), some (.int a6), b7]) i_119_177 (Nat.le_of_ble_eq_true rfl) rfl ?_
        exact W_119_179 (d := d) hC R K hF
noncomputable def F_119_111 (T : kT) (a1 : Int32) (a2 : Int32) (a3 : Int32) (a4 : Int32) (a5 : Int32) (a6 : Int32) (M : kM) : Option (Unit × kM) :=
  if a2 = 4 then (if a5 = 0 then (F_119_145 T a1 a2 a3 a4 0 a6 M) else (kBd (F_117 T a1 2 M) (fun r19 M20 => kBd (F_95 T r19 0 (a4 - 1) M20) (fun r22 M23 => if r22 = 0 then (F_119_145 T a1 a2 a3 a4 0 a6 M23) else (F_119_145 T a1 a2 a3 a4 1 a6 M23))))) else (F_119_145 T a1 a2 a3 a4 a5 a6 M)
set_option maxHeartbeats 1000000 in
theorem W_119_111 {G : kG} {d : Nat} {A : kLb → Nat} {C : kCl} {P : kO → kH → Prop} {T : kT} {M : kM} {h : kH} {a1 : Int32} {a2 : Int32} {a3 : Int32} {a4 : Int32} {a5 : Int32} {a6 : Int32} {b7 : Option Value} {z : (Unit × kM)} (hC : C = kRun G (d + 1)) (R : kRl A T M h) (K : (fun z : (Unit × kM) => ∀ h1, kRl A T z.2 h1 → P (.inl none) h1) z) (hF : F_119_111 T a1 a2 a3 a4 a5 a6 M = some z) : kWP G 119 C P 111 [some (.ref (A lMo)), some (.int a1), some (.int a2), some (.int a3), some (.int a4), some (.int a5), some (.int a6), b7] [] h 0 0 := by
  unfold F_119_111 at hF
  refine k_iload_n (pc := 111) i_119_111 rfl ?_
  refine k_iconst (pc := 112) (v := 4) i_119_112 (by decide) ?_
  refine k_icmp_ne (pc := 113) (tgt := 145) i_119_113 (by decide) (fun c17 => ?_) (fun c17 => ?_)
  · rw [if_neg c17] at hF
    exact W_119_145 (d := d) hC R K hF
  · rw [if_pos c17] at hF
    refine k_iload (pc := 116) i_119_116 rfl ?_
    refine k_if_eq (pc := 118) (tgt := 142) i_119_118 (by decide) (fun c18 => ?_) (fun c18 => ?_)
    · rw [if_pos c18] at hF
      refine k_iconst (pc := 142) (v := 0) i_119_142 (by decide) ?_
      refine k_istore (pc := 143) (lo2 := [some (.ref (A lMo)), some (.int a1), some (.int a2), some (.int a3), some (.int a4), some (.int 0), some (.int a6), b7]) i_119_143 (Nat.le_of_ble_eq_true rfl) rfl ?_
      exact W_119_145 (d := d) hC R K hF
    · rw [if_neg c18] at hF
      refine k_aload_n (pc := 121) i_119_121 rfl rfl ?_
      refine k_iload_n (pc := 122) i_119_122 rfl ?_
      refine k_iconst (pc := 123) (v := 2) i_119_123 (by decide) ?_
      obtain ⟨r19, M20, q21, hF⟩ := kBd_el hF
      refine kcv_I (pc := 124) (As := [.ref (A lMo), .int a1, .int 2]) (st := []) (A := A) (T := T) (r := r19) (M1 := M20) i_119_124 m_7_166 rfl rfl rfl rfl (rd_Mo R) rfl (Nat.le_of_ble_eq_true rfl) (hC ▸ D_117 R q21) (fun h R => ?_)
      refine k_iconst (pc := 127) (v := 0) i_119_127 (by decide) ?_
      refine k_iload (pc := 128) i_119_128 rfl ?_
      refine k_iconst (pc := 130) (v := 1) i_119_130 (by decide) ?_
      refine k_isub (pc := 131) i_119_131 ?_
      obtain ⟨r22, M23, q24, hF⟩ := kBd_el hF
      refine kcs_I (pc := 132) (As := [.int r19, .int 0, .int (a4 - 1)]) (st := []) (A := A) (T := T) (r := r22) (M1 := M23) i_119_132 m_7_94 rfl rfl rfl (Nat.le_of_ble_eq_true rfl) (hC ▸ D_95 R q24) (fun h R => ?_)
      refine k_if_eq (pc := 135) (tgt := 142) i_119_135 (by decide) (fun c25 => ?_) (fun c25 => ?_)
      · rw [if_pos c25] at hF
        refine k_iconst (pc := 142) (v := 0) i_119_142 (by decide) ?_
        refine k_istore (pc := 143) (lo2 := [some (.ref (A lMo)), some (.int a1), some (.int a2), some (.int a3), some (.int a4), some (.int 0), some (.int a6), b7]) i_119_143 (Nat.le_of_ble_eq_true rfl) rfl ?_
        exact W_119_145 (d := d) hC R K hF
      · rw [if_neg c25] at hF
        refine k_iconst (pc := 138) (v := 1) i_119_138 (by decide) ?_
        refine k_goto (pc := 139) (tgt := 143) i_119_139 (by decide) ?_
        refine k_istore (pc := 143) (lo2 := [some (.ref (A lMo)), some (.int a1), some (.int a2), some (.int a3), some (.int a4), some (.int 1), some (.int a6), b7]) i_119_143 (Nat.le_of_ble_eq_true rfl) rfl ?_
        exact W_119_145 (d := d) hC R K hF
noncomputable def F_119_96 (T : kT) (a1 : Int32) (a2 : Int32) (a3 : Int32) (a4 : Int32) (a6 : Int32) (M : kM) : Option (Unit × kM) :=
  kBd (F_117 T a1 1 M) (fun r11 M12 => kBd (F_95 T r11 0 (a3 - 1) M12) (fun r14 M15 => F_119_111 T a1 a2 a3 a4 r14 a6 M15))
set_option maxHeartbeats 1000000 in
theorem W_119_96 {G : kG} {d : Nat} {A : kLb → Nat} {C : kCl} {P : kO → kH → Prop} {T : kT} {M : kM} {h : kH} {a1 : Int32} {a2 : Int32} {a3 : Int32} {a4 : Int32} {a6 : Int32} {b5 b7 : Option Value} {z : (Unit × kM)} (hC : C = kRun G (d + 1)) (R : kRl A T M h) (K : (fun z : (Unit × kM) => ∀ h1, kRl A T z.2 h1 → P (.inl none) h1) z) (hF : F_119_96 T a1 a2 a3 a4 a6 M = some z) : kWP G 119 C P 96 [some (.ref (A lMo)), some (.int a1), some (.int a2), some (.int a3), some (.int a4), b5, some (.int a6), b7] [] h 0 0 := by
  unfold F_119_96 at hF
  refine k_aload_n (pc := 96) i_119_96 rfl rfl ?_
  refine k_iload_n (pc := 97) i_119_97 rfl ?_
  refine k_iconst (pc := 98) (v := 1) i_119_98 (by decide) ?_
  obtain ⟨r11, M12, q13, hF⟩ := kBd_el hF
  refine kcv_I (pc := 99) (As := [.ref (A lMo), .int a1, .int 1]) (st := []) (A := A) (T := T) (r := r11) (M1 := M12) i_119_99 m_7_166 rfl rfl rfl rfl (rd_Mo R) rfl (Nat.le_of_ble_eq_true rfl) (hC ▸ D_117 R q13) (fun h R => ?_)
  refine k_iconst (pc := 102) (v := 0) i_119_102 (by decide) ?_
  refine k_iload_n (pc := 103) i_119_103 rfl ?_
  refine k_iconst (pc := 104) (v := 1) i_119_104 (by decide) ?_
  refine k_isub (pc := 105) i_119_105 ?_
  obtain ⟨r14, M15, q16, hF⟩ := kBd_el hF
  refine kcs_I (pc := 106) (As := [.int r11, .int 0, .int (a3 - 1)]) (st := []) (A := A) (T := T) (r := r14) (M1 := M15) i_119_106 m_7_94 rfl rfl rfl (Nat.le_of_ble_eq_true rfl) (hC ▸ D_95 R q16) (fun h R => ?_)
  refine k_istore (pc := 109) (lo2 := [some (.ref (A lMo)), some (.int a1), some (.int a2), some (.int a3), some (.int a4), some (.int r14), some (.int a6), b7]) i_119_109 (Nat.le_of_ble_eq_true rfl) rfl ?_
  exact W_119_111 (d := d) hC R K hF
noncomputable def F_119_74 (T : kT) (a1 : Int32) (a2 : Int32) (a3 : Int32) (a4 : Int32) (a5 : Int32) (a6 : Int32) (M : kM) : Option (Unit × kM) :=
  if a2 = 1 then (F_119_96 T a1 a2 a3 a4 a6 M) else (if a2 = 7 then (F_119_96 T a1 a2 a3 a4 a6 M) else (if a2 = 10 then (F_119_96 T a1 a2 a3 a4 a6 M) else (if a2 = 4 then (F_119_96 T a1 a2 a3 a4 a6 M) else (F_119_111 T a1 a2 a3 a4 a5 a6 M))))
set_option maxHeartbeats 1000000 in
theorem W_119_74 {G : kG} {d : Nat} {A : kLb → Nat} {C : kCl} {P : kO → kH → Prop} {T : kT} {M : kM} {h : kH} {a1 : Int32} {a2 : Int32} {a3 : Int32} {a4 : Int32} {a5 : Int32} {a6 : Int32} {b7 : Option Value} {z : (Unit × kM)} (hC : C = kRun G (d + 1)) (R : kRl A T M h) (K : (fun z : (Unit × kM) => ∀ h1, kRl A T z.2 h1 → P (.inl none) h1) z) (hF : F_119_74 T a1 a2 a3 a4 a5 a6 M = some z) : kWP G 119 C P 74 [some (.ref (A lMo)), some (.int a1), some (.int a2), some (.int a3), some (.int a4), some (.int a5), some (.int a6), b7] [] h 0 0 := by
  unfold F_119_74 at hF
  refine k_iload_n (pc := 74) i_119_74 rfl ?_
  refine k_iconst (pc := 75) (v := 1) i_119_75 (by decide) ?_
  refine k_icmp_eq (pc := 76) (tgt := 96) i_119_76 (by decide) (fun c10 => ?_) (fun c10 => ?_)
  · rw [if_pos c10] at hF
    exact W_119_96 (d := d) hC R K hF
  · rw [if_neg c10] at hF
    refine k_iload_n (pc := 79) i_119_79 rfl ?_
    refine k_bipush (pc := 80) (v := 7) i_119_80 (by decide) ?_
    refine k_icmp_eq (pc := 82) (tgt := 96) i_119_82 (by decide) (fun c11 => ?_) (fun c11 => ?_)
    · rw [if_pos c11] at hF
      exact W_119_96 (d := d) hC R K hF
    · rw [if_neg c11] at hF
      refine k_iload_n (pc := 85) i_119_85 rfl ?_
      refine k_bipush (pc := 86) (v := 10) i_119_86 (by decide) ?_
      refine k_icmp_eq (pc := 88) (tgt := 96) i_119_88 (by decide) (fun c12 => ?_) (fun c12 => ?_)
      · rw [if_pos c12] at hF
        exact W_119_96 (d := d) hC R K hF
      · rw [if_neg c12] at hF
        refine k_iload_n (pc := 91) i_119_91 rfl ?_
        refine k_iconst (pc := 92) (v := 4) i_119_92 (by decide) ?_
        refine k_icmp_ne (pc := 93) (tgt := 111) i_119_93 (by decide) (fun c13 => ?_) (fun c13 => ?_)
        · rw [if_neg c13] at hF
          exact W_119_111 (d := d) hC R K hF
        · rw [if_pos c13] at hF
          exact W_119_96 (d := d) hC R K hF
noncomputable def F_119_49 (T : kT) (a1 : Int32) (a2 : Int32) (a3 : Int32) (s0 : Int32) (M : kM) : Option (Unit × kM) :=
  if a2 = 0 then (kBd (F_117 T a1 1 M) (fun r10 M11 => kGx r10 6 (F_119_74 T a1 a2 a3 s0 1 (gp M11 (lMa 2) r10.toNatClampNeg) M11))) else (F_119_74 T a1 a2 a3 s0 1 a3 M)
set_option maxHeartbeats 1000000 in
theorem W_119_49 {G : kG} {d : Nat} {A : kLb → Nat} {C : kCl} {P : kO → kH → Prop} {T : kT} {M : kM} {h : kH} {a1 : Int32} {a2 : Int32} {a3 : Int32} {s0 : Int32} {b4 b5 b6 b7 : Option Value} {z : (Unit × kM)} (hC : C = kRun G (d + 1)) (R : kRl A T M h) (K : (fun z : (Unit × kM) => ∀ h1, kRl A T z.2 h1 → P (.inl none) h1) z) (hF : F_119_49 T a1 a2 a3 s0 M = some z) : kWP G 119 C P 49 [some (.ref (A lMo)), some (.int a1), some (.int a2), some (.int a3), b4, b5, b6, b7] [.int s0] h 0 0 := by
  unfold F_119_49 at hF
  refine k_istore (pc := 49) (lo2 := [some (.ref (A lMo)), some (.int a1), some (.int a2), some (.int a3), some (.int s0), b5, b6, b7]) i_119_49 (Nat.le_of_ble_eq_true rfl) rfl ?_
  refine k_iconst (pc := 51) (v := 1) i_119_51 (by decide) ?_
  refine k_istore (pc := 52) (lo2 := [some (.ref (A lMo)), some (.int a1), some (.int a2), some (.int a3), some (.int s0), some (.int 1), b6, b7]) i_119_52 (Nat.le_of_ble_eq_true rfl) rfl ?_
  refine k_iload_n (pc := 54) i_119_54 rfl ?_
  refine k_istore (pc := 55) (lo2 := [some (.ref (A lMo)), some (.int a1), some (.int a2), some (.int a3), some (.int s0), some (.int 1), some (.int a3), b7]) i_119_55 (Nat.le_of_ble_eq_true rfl) rfl ?_
  refine k_iload_n (pc := 57) i_119_57 rfl ?_
  refine k_if_ne (pc := 58) (tgt := 74) i_119_58 (by decide) (fun c9 => ?_) (fun c9 => ?_)
  · rw [if_neg c9] at hF
    exact W_119_74 (d := d) hC R K hF
  · rw [if_pos c9] at hF
    refine k_aload_n (pc := 61) i_119_61 rfl rfl ?_
    refine k_getf (pc := 62) i_119_62 f_7_7 (rd_Mo R) rfl ?_
    refine k_aload_n (pc := 65) i_119_65 rfl rfl ?_
    refine k_iload_n (pc := 66) i_119_66 rfl ?_
    refine k_iconst (pc := 67) (v := 1) i_119_67 (by decide) ?_
    obtain ⟨r10, M11, q12, hF⟩ := kBd_el hF
    refine kcv_I (pc := 68) (As := [.ref (A lMo), .int a1, .int 1]) (st := [.ref (A (lMa 2))]) (A := A) (T := T) (r := r10) (M1 := M11) i_119_68 m_7_166 rfl rfl rfl rfl (rd_Mo R) rfl (Nat.le_of_ble_eq_true rfl) (hC ▸ D_117 R q12) (fun h R => ?_)
    obtain ⟨g13, hF⟩ := kGx_el hF
    refine k_iald (pc := 71) i_119_71 (rd_Ma_2 R) g13 ?_
    refine k_istore (pc := 72) (lo2 := [some (.ref (A lMo)), some (.int a1), some (.int a2), some (.int a3), some (.int s0), some (.int 1), some (.int (gp M11 (lMa 2) r10.toNatClampNeg)), b7]) i_119_72 (Nat.le_of_ble_eq_true rfl) rfl ?_
    exact W_119_74 (d := d) hC R K hF
noncomputable def F_119_24 (T : kT) (a1 : Int32) (a2 : Int32) (s0 : Int32) (M : kM) : Option (Unit × kM) :=
  kGx a1 60 (if 0 ≤ (gp M (lMa 20) a1.toNatClampNeg) then (kGx a1 60 (kGx (gp M (lMa 20) a1.toNatClampNeg) 60 (F_119_49 T a1 a2 s0 (gp M (lMa 21) (gp M (lMa 20) a1.toNatClampNeg).toNatClampNeg) M))) else (F_119_49 T a1 a2 s0 0 M))
set_option maxHeartbeats 1000000 in
theorem W_119_24 {G : kG} {d : Nat} {A : kLb → Nat} {C : kCl} {P : kO → kH → Prop} {T : kT} {M : kM} {h : kH} {a1 : Int32} {a2 : Int32} {s0 : Int32} {b3 b4 b5 b6 b7 : Option Value} {z : (Unit × kM)} (hC : C = kRun G (d + 1)) (R : kRl A T M h) (K : (fun z : (Unit × kM) => ∀ h1, kRl A T z.2 h1 → P (.inl none) h1) z) (hF : F_119_24 T a1 a2 s0 M = some z) : kWP G 119 C P 24 [some (.ref (A lMo)), some (.int a1), some (.int a2), b3, b4, b5, b6, b7] [.int s0] h 0 0 := by
  unfold F_119_24 at hF
  refine k_istore_n (pc := 24) (lo2 := [some (.ref (A lMo)), some (.int a1), some (.int a2), some (.int s0), b4, b5, b6, b7]) i_119_24 (Nat.le_of_ble_eq_true rfl) rfl ?_
  refine k_aload_n (pc := 25) i_119_25 rfl rfl ?_
  refine k_getf (pc := 26) i_119_26 f_7_51 (rd_Mo R) rfl ?_
  refine k_iload_n (pc := 29) i_119_29 rfl ?_
  obtain ⟨g5, hF⟩ := kGx_el hF
  refine k_iald (pc := 30) i_119_30 (rd_Ma_20 R) g5 ?_
  refine k_if_ge (pc := 31) (tgt := 38) i_119_31 (by decide) (fun c6 => ?_) (fun c6 => ?_)
  · rw [if_pos c6] at hF
    refine k_aload_n (pc := 38) i_119_38 rfl rfl ?_
    refine k_getf (pc := 39) i_119_39 f_7_54 (rd_Mo R) rfl ?_
    refine k_aload_n (pc := 42) i_119_42 rfl rfl ?_
    refine k_getf (pc := 43) i_119_43 f_7_51 (rd_Mo R) rfl ?_
    refine k_iload_n (pc := 46) i_119_46 rfl ?_
    obtain ⟨g7, hF⟩ := kGx_el hF
    refine k_iald (pc := 47) i_119_47 (rd_Ma_20 R) g7 ?_
    obtain ⟨g8, hF⟩ := kGx_el hF
    refine k_iald (pc := 48) i_119_48 (rd_Ma_21 R) g8 ?_
    exact W_119_49 (d := d) hC R K hF
  · rw [if_neg c6] at hF
    refine k_iconst (pc := 34) (v := 0) i_119_34 (by decide) ?_
    refine k_goto (pc := 35) (tgt := 49) i_119_35 (by decide) ?_
    exact W_119_49 (d := d) hC R K hF
noncomputable def F_119 (T : kT) (a1 : Int32) (a2 : Int32) (M : kM) : Option (Unit × kM) :=
  kGx a1 60 (if 0 ≤ (gp M (lMa 19) a1.toNatClampNeg) then (kGx a1 60 (kGx (gp M (lMa 19) a1.toNatClampNeg) 60 (F_119_24 T a1 a2 (gp M (lMa 21) (gp M (lMa 19) a1.toNatClampNeg).toNatClampNeg) M))) else (F_119_24 T a1 a2 0 M))
set_option maxHeartbeats 1000000 in
theorem D_119 {G : kG} {d : Nat} {A : kLb → Nat} {T : kT} {M : kM} {h : kH} {a1 : Int32} {a2 : Int32} {z : (Unit × kM)} (R : kRl A T M h) (hF : F_119 T a1 a2 M = some z) : kRun G (d + 2) 119 [.ref (A lMo), .int a1, .int a2] h 0 0 (kPV A T z) := by
  refine ⟨⟨rfl, Nat.le_of_ble_eq_true rfl⟩, ?_⟩
  show kWP _ _ (kRun G (d + 1)) _ 0 [some (.ref (A lMo)), some (.int a1), some (.int a2), none, none, none, none, none] [] _ _ _
  have K : (fun z : (Unit × kM) => ∀ h1, kRl A T z.2 h1 → kPV A T z (.inl none) h1) z := fun _ q => ⟨rfl, q⟩
  unfold F_119 at hF
  refine k_aload_n (pc := 0) i_119_0 rfl rfl ?_
  refine k_getf (pc := 1) i_119_1 f_7_48 (rd_Mo R) rfl ?_
  refine k_iload_n (pc := 4) i_119_4 rfl ?_
  obtain ⟨g1, hF⟩ := kGx_el hF
  refine k_iald (pc := 5) i_119_5 (rd_Ma_19 R) g1 ?_
  refine k_if_ge (pc := 6) (tgt := 13) i_119_6 (by decide) (fun c2 => ?_) (fun c2 => ?_)
  · rw [if_pos c2] at hF
    refine k_aload_n (pc := 13) i_119_13 rfl rfl ?_
    refine k_getf (pc := 14) i_119_14 f_7_54 (rd_Mo R) rfl ?_
    refine k_aload_n (pc := 17) i_119_17 rfl rfl ?_
    refine k_getf (pc := 18) i_119_18 f_7_48 (rd_Mo R) rfl ?_
    refine k_iload_n (pc := 21) i_119_21 rfl ?_
    obtain ⟨g3, hF⟩ := kGx_el hF
    refine k_iald (pc := 22) i_119_22 (rd_Ma_19 R) g3 ?_
    obtain ⟨g4, hF⟩ := kGx_el hF
    refine k_iald (pc := 23) i_119_23 (rd_Ma_21 R) g4 ?_
    exact W_119_24 (d := d) rfl R K hF
  · rw [if_neg c2] at hF
    refine k_iconst (pc := 9) (v := 0) i_119_9 (by decide) ?_
    refine k_goto (pc := 10) (tgt := 24) i_119_10 (by decide) ?_
    exact W_119_24 (d := d) rfl R K hF
-- 115: RDModel all
noncomputable def F_115_300 (T : kT) (a1 : Int32) (M : kM) : Option ((Int32 × Int32 × kM) ⊕ (Unit × kM)) :=
  if a1 ≤ 0 then (some (.inl (a1, 0, M))) else (some (.inl (a1, 1, M)))
set_option maxHeartbeats 1000000 in
theorem W_115_300 {G : kG} {d : Nat} {A : kLb → Nat} {C : kCl} {P : kO → kH → Prop} {T : kT} {M : kM} {h : kH} {a1 : Int32} {b2 b3 b4 b5 : Option Value} {z : ((Int32 × Int32 × kM) ⊕ (Unit × kM))} (hC : C = kRun G (d + 4)) (R : kRl A T M h) (K : (Sum.elim (fun w : (Int32 × Int32 × kM) => ∀ (h : kH) (b3 b4 b5 : Option Value), kRl A T w.2.2 h → kWP G 115 C P 4 [some (.ref (A lMo)), some (.int w.1), some (.int w.2.1), b3, b4, b5] [] h 0 0) (fun z : (Unit × kM) => ∀ h1, kRl A T z.2 h1 → P (.inl none) h1)) z) (hF : F_115_300 T a1 M = some z) : kWP G 115 C P 300 [some (.ref (A lMo)), some (.int a1), b2, b3, b4, b5] [] h 0 0 := by
  unfold F_115_300 at hF
  refine k_iload_n (pc := 300) i_115_300 rfl ?_
  refine k_if_le (pc := 301) (tgt := 308) i_115_301 (by decide) (fun c31 => ?_) (fun c31 => ?_)
  · rw [if_pos c31] at hF
    refine k_iconst (pc := 308) (v := 0) i_115_308 (by decide) ?_
    refine k_istore_n (pc := 309) (lo2 := [some (.ref (A lMo)), some (.int a1), some (.int 0), b3, b4, b5]) i_115_309 (Nat.le_of_ble_eq_true rfl) rfl ?_
    refine k_goto (pc := 310) (tgt := 4) i_115_310 (by decide) ?_
    obtain rfl := Option.some.inj hF
    exact K _ _ _ _ R
  · rw [if_neg c31] at hF
    refine k_iconst (pc := 304) (v := 1) i_115_304 (by decide) ?_
    refine k_goto (pc := 305) (tgt := 309) i_115_305 (by decide) ?_
    refine k_istore_n (pc := 309) (lo2 := [some (.ref (A lMo)), some (.int a1), some (.int 1), b3, b4, b5]) i_115_309 (Nat.le_of_ble_eq_true rfl) rfl ?_
    refine k_goto (pc := 310) (tgt := 4) i_115_310 (by decide) ?_
    obtain rfl := Option.some.inj hF
    exact K _ _ _ _ R
noncomputable def B_115_219 (T : kT) (a1 : Int32) (M : kM) : Option ((Int32 × kM) ⊕ ((Int32 × Int32 × kM) ⊕ (Unit × kM))) :=
  if 0 ≤ (gp M lMo 23) then (kLf (F_115_300 T a1 M)) else (if a1 ≤ 0 then (kLf (F_115_300 T a1 M)) else (kGx (a1 - 1) 60 (if (gp M (lMa 33) (a1 - 1).toNatClampNeg) = 0 then (kGx (a1 + (-1)) 60 (kGx (a1 + (-1)) 60 (kBd (F_118 T (gp M (lMa 32) (a1 + (-1)).toNatClampNeg) M) (fun r36 M37 => kBd (F_119 T (gp M (lMa 32) (a1 + (-1)).toNatClampNeg) r36 M37) (fun r39 M40 => kGx (a1 + (-1)) 60 (kGx (gp M40 (lMa 32) (a1 + (-1)).toNatClampNeg) 60 (if (a1 + (-1)) ≤ 0 then (some (.inl ((a1 + (-1)), sp M40 (lMa 34) (gp M40 (lMa 32) (a1 + (-1)).toNatClampNeg).toNatClampNeg ((gp M40 lMo 16) - 1)))) else (kGx ((a1 + (-1)) - 1) 60 (kGx ((a1 + (-1)) - 1) 60 (some (.inl ((a1 + (-1)), sp (sp M40 (lMa 34) (gp M40 (lMa 32) (a1 + (-1)).toNatClampNeg).toNatClampNeg ((gp M40 lMo 16) - 1)) (lMa 33) ((a1 + (-1)) - 1).toNatClampNeg ((gp (sp M40 (lMa 34) (gp M40 (lMa 32) (a1 + (-1)).toNatClampNeg).toNatClampNeg ((gp M40 lMo 16) - 1)) (lMa 33) ((a1 + (-1)) - 1).toNatClampNeg) - 1))))))))))))) else (kLf (F_115_300 T a1 M)))))
noncomputable def F_115_219 (T : kT) (a1 : Int32) (M : kM) : Option ((Int32 × Int32 × kM) ⊕ (Unit × kM)) :=
  kWh (fun w : (Int32 × kM) => B_115_219 T w.1 w.2) (a1, M)
theorem F_115_219_eq (T : kT) (a1 : Int32) (M : kM) : F_115_219 T a1 M = kAg (B_115_219 T a1 M) (fun w => F_115_219 T w.1 w.2) := by
  unfold F_115_219
  rw [kWh_eq]
set_option maxHeartbeats 1000000 in
theorem W_115_219 {G : kG} {d : Nat} {A : kLb → Nat} {C : kCl} {P : kO → kH → Prop} {T : kT} {M : kM} {h : kH} {a1 : Int32} {b2 b3 b4 b5 : Option Value} {z : ((Int32 × Int32 × kM) ⊕ (Unit × kM))} (hC : C = kRun G (d + 4)) (R : kRl A T M h) (K : (Sum.elim (fun w : (Int32 × Int32 × kM) => ∀ (h : kH) (b3 b4 b5 : Option Value), kRl A T w.2.2 h → kWP G 115 C P 4 [some (.ref (A lMo)), some (.int w.1), some (.int w.2.1), b3, b4, b5] [] h 0 0) (fun z : (Unit × kM) => ∀ h1, kRl A T z.2 h1 → P (.inl none) h1)) z) (hF : F_115_219 T a1 M = some z) : kWP G 115 C P 219 [some (.ref (A lMo)), some (.int a1), b2, b3, b4, b5] [] h 0 0 := by
  refine kWh_ind (P := (fun w : (Int32 × kM) => ∀ (h : kH) (b2 b3 b4 b5 : Option Value), kRl A T w.2 h → kWP G 115 C P 219 [some (.ref (A lMo)), some (.int w.1), b2, b3, b4, b5] [] h 0 0)) (Q := (Sum.elim (fun w : (Int32 × Int32 × kM) => ∀ (h : kH) (b3 b4 b5 : Option Value), kRl A T w.2.2 h → kWP G 115 C P 4 [some (.ref (A lMo)), some (.int w.1), some (.int w.2.1), b3, b4, b5] [] h 0 0) (fun z : (Unit × kM) => ∀ h1, kRl A T z.2 h1 → P (.inl none) h1))) hF K ?_ h _ _ _ _ R
  clear hF K R
  intro w z hF K h b2 b3 b4 b5 R
  obtain ⟨a1, M⟩ := w
  change B_115_219 T a1 M = some z at hF
  change kWP G 115 C P 219 [some (.ref (A lMo)), some (.int a1), b2, b3, b4, b5] [] h 0 0
  unfold B_115_219 at hF
  refine k_aload_n (pc := 219) i_115_219 rfl rfl ?_
  refine k_getf (pc := 220) i_115_220 f_7_133 (rd_Mo R) rfl ?_
  refine k_if_ge (pc := 223) (tgt := 300) i_115_223 (by decide) (fun c30 => ?_) (fun c30 => ?_)
  · rw [if_pos c30] at hF
    obtain ⟨z, hG, rfl⟩ := kLf_el hF
    replace hF := hG
    clear hG
    exact W_115_300 (d := d) hC R K hF
  · rw [if_neg c30] at hF
    refine k_iload_n (pc := 226) i_115_226 rfl ?_
    refine k_if_le (pc := 227) (tgt := 300) i_115_227 (by decide) (fun c31 => ?_) (fun c31 => ?_)
    · rw [if_pos c31] at hF
      obtain ⟨z, hG, rfl⟩ := kLf_el hF
      replace hF := hG
      clear hG
      exact W_115_300 (d := d) hC R K hF
    · rw [if_neg c31] at hF
      refine k_aload_n (pc := 230) i_115_230 rfl rfl ?_
      refine k_getf (pc := 231) i_115_231 f_7_76 (rd_Mo R) rfl ?_
      refine k_iload_n (pc := 234) i_115_234 rfl ?_
      refine k_iconst (pc := 235) (v := 1) i_115_235 (by decide) ?_
      refine k_isub (pc := 236) i_115_236 ?_
      obtain ⟨g32, hF⟩ := kGx_el hF
      refine k_iald (pc := 237) i_115_237 (rd_Ma_33 R) g32 ?_
      refine k_if_ne (pc := 238) (tgt := 300) i_115_238 (by decide) (fun c33 => ?_) (fun c33 => ?_)
      · rw [if_neg c33] at hF
        obtain ⟨z, hG, rfl⟩ := kLf_el hF
        replace hF := hG
        clear hG
        exact W_115_300 (d := d) hC R K hF
      · rw [if_pos c33] at hF
        refine k_iinc (pc := 241) (v := a1 + (-1)) (lo2 := [some (.ref (A lMo)), some (.int (a1 + (-1))), b2, b3, b4, b5]) i_115_241 rfl rfl rfl ?_
        refine k_aload_n (pc := 244) i_115_244 rfl rfl ?_
        refine k_aload_n (pc := 245) i_115_245 rfl rfl ?_
        refine k_getf (pc := 246) i_115_246 f_7_73 (rd_Mo R) rfl ?_
        refine k_iload_n (pc := 249) i_115_249 rfl ?_
        obtain ⟨g34, hF⟩ := kGx_el hF
        refine k_iald (pc := 250) i_115_250 (rd_Ma_32 R) g34 ?_
        refine k_aload_n (pc := 251) i_115_251 rfl rfl ?_
        refine k_aload_n (pc := 252) i_115_252 rfl rfl ?_
        refine k_getf (pc := 253) i_115_253 f_7_73 (rd_Mo R) rfl ?_
        refine k_iload_n (pc := 256) i_115_256 rfl ?_
        obtain ⟨g35, hF⟩ := kGx_el hF
        refine k_iald (pc := 257) i_115_257 (rd_Ma_32 R) g35 ?_
        obtain ⟨r36, M37, q38, hF⟩ := kBd_el hF
        refine kcv_I (pc := 258) (As := [.ref (A lMo), .int (gp M (lMa 32) (a1 + (-1)).toNatClampNeg)]) (st := [.int (gp M (lMa 32) (a1 + (-1)).toNatClampNeg), .ref (A lMo)]) (A := A) (T := T) (r := r36) (M1 := M37) i_115_258 m_7_155 rfl rfl rfl rfl (rd_Mo R) rfl (Nat.le_of_ble_eq_true rfl) (hC ▸ D_118 R q38) (fun h R => ?_)
        obtain ⟨r39, M40, q41, hF⟩ := kBd_el hF
        refine kcv_V (pc := 261) (As := [.ref (A lMo), .int (gp M (lMa 32) (a1 + (-1)).toNatClampNeg), .int r36]) (st := []) (A := A) (T := T) (r := r39) (M1 := M40) i_115_261 m_7_159 rfl rfl rfl rfl (rd_Mo R) rfl (Nat.le_of_ble_eq_true rfl) (hC ▸ D_119 R q41) (fun h R => ?_)
        refine k_aload_n (pc := 264) i_115_264 rfl rfl ?_
        refine k_getf (pc := 265) i_115_265 f_7_79 (rd_Mo R) rfl ?_
        refine k_aload_n (pc := 268) i_115_268 rfl rfl ?_
        refine k_getf (pc := 269) i_115_269 f_7_73 (rd_Mo R) rfl ?_
        refine k_iload_n (pc := 272) i_115_272 rfl ?_
        obtain ⟨g42, hF⟩ := kGx_el hF
        refine k_iald (pc := 273) i_115_273 (rd_Ma_32 R) g42 ?_
        refine k_aload_n (pc := 274) i_115_274 rfl rfl ?_
        refine k_getf (pc := 275) i_115_275 f_7_149 (rd_Mo R) rfl ?_
        refine k_iconst (pc := 278) (v := 1) i_115_278 (by decide) ?_
        refine k_isub (pc := 279) i_115_279 ?_
        obtain ⟨g43, hF⟩ := kGx_el hF
        refine k_iast (pc := 280) i_115_280 (rd_Ma_34 R) g43 (fun h e44 => ?_)
        replace R := kRl_sp (l := (lMa 34)) (k := (gp M40 (lMa 32) (a1 + (-1)).toNatClampNeg).toNatClampNeg) (v := (gp M40 lMo 16) - 1) R rfl e44
        clear e44
        refine k_iload_n (pc := 281) i_115_281 rfl ?_
        refine k_if_le (pc := 282) (tgt := 219) i_115_282 (by decide) (fun c45 => ?_) (fun c45 => ?_)
        · rw [if_pos c45] at hF
          obtain rfl := Option.some.inj hF
          exact K _ _ _ _ _ R
        · rw [if_neg c45] at hF
          refine k_aload_n (pc := 285) i_115_285 rfl rfl ?_
          refine k_getf (pc := 286) i_115_286 f_7_76 (rd_Mo R) rfl ?_
          refine k_iload_n (pc := 289) i_115_289 rfl ?_
          refine k_iconst (pc := 290) (v := 1) i_115_290 (by decide) ?_
          refine k_isub (pc := 291) i_115_291 ?_
          refine k_dup2 (pc := 292) i_115_292 rfl rfl ?_
          obtain ⟨g46, hF⟩ := kGx_el hF
          refine k_iald (pc := 293) i_115_293 (rd_Ma_33 R) g46 ?_
          refine k_iconst (pc := 294) (v := 1) i_115_294 (by decide) ?_
          refine k_isub (pc := 295) i_115_295 ?_
          obtain ⟨g47, hF⟩ := kGx_el hF
          refine k_iast (pc := 296) i_115_296 (rd_Ma_33 R) g47 (fun h e48 => ?_)
          replace R := kRl_sp (l := (lMa 33)) (k := ((a1 + (-1)) - 1).toNatClampNeg) (v := (gp (sp M40 (lMa 34) (gp M40 (lMa 32) (a1 + (-1)).toNatClampNeg).toNatClampNeg ((gp M40 lMo 16) - 1)) (lMa 33) ((a1 + (-1)) - 1).toNatClampNeg) - 1) R rfl e48
          clear e48
          refine k_goto (pc := 297) (tgt := 219) i_115_297 (by decide) ?_
          obtain rfl := Option.some.inj hF
          exact K _ _ _ _ _ R
noncomputable def F_115_215 (T : kT) (a1 : Int32) (s0 : Int32) (s1 : Int32) (M : kM) : Option ((Int32 × Int32 × kM) ⊕ (Unit × kM)) :=
  kGx s1 60 (F_115_219 T (a1 + 1) (sp M (lMa 33) s1.toNatClampNeg s0))
set_option maxHeartbeats 1000000 in
theorem W_115_215 {G : kG} {d : Nat} {A : kLb → Nat} {C : kCl} {P : kO → kH → Prop} {T : kT} {M : kM} {h : kH} {a1 : Int32} {s0 : Int32} {s1 : Int32} {b2 b3 b4 b5 : Option Value} {z : ((Int32 × Int32 × kM) ⊕ (Unit × kM))} (hC : C = kRun G (d + 4)) (R : kRl A T M h) (K : (Sum.elim (fun w : (Int32 × Int32 × kM) => ∀ (h : kH) (b3 b4 b5 : Option Value), kRl A T w.2.2 h → kWP G 115 C P 4 [some (.ref (A lMo)), some (.int w.1), some (.int w.2.1), b3, b4, b5] [] h 0 0) (fun z : (Unit × kM) => ∀ h1, kRl A T z.2 h1 → P (.inl none) h1)) z) (hF : F_115_215 T a1 s0 s1 M = some z) : kWP G 115 C P 215 [some (.ref (A lMo)), some (.int a1), b2, b3, b4, b5] [.int s0, .int s1, .ref (A (lMa 33))] h 0 0 := by
  unfold F_115_215 at hF
  obtain ⟨g28, hF⟩ := kGx_el hF
  refine k_iast (pc := 215) i_115_215 (rd_Ma_33 R) g28 (fun h e29 => ?_)
  replace R := kRl_sp (l := (lMa 33)) (k := s1.toNatClampNeg) (v := s0) R rfl e29
  clear e29
  refine k_iinc (pc := 216) (v := a1 + 1) (lo2 := [some (.ref (A lMo)), some (.int (a1 + 1)), b2, b3, b4, b5]) i_115_216 rfl rfl rfl ?_
  exact W_115_219 (d := d) hC R K hF
noncomputable def F_115_170 (T : kT) (a1 : Int32) (a4 : Int32) (a5 : Int32) (M : kM) : Option ((Int32 × Int32 × kM) ⊕ (Unit × kM)) :=
  kBd (F_116 T a4 M) (fun r21 M22 => kGx a1 60 (if a4 = 0 then (F_115_215 T a1 0 a1 (sp M22 (lMa 32) a1.toNatClampNeg a5)) else (if a4 < 3 then (F_115_215 T a1 1 a1 (sp M22 (lMa 32) a1.toNatClampNeg a5)) else (if 5 < a4 then (F_115_215 T a1 1 a1 (sp M22 (lMa 32) a1.toNatClampNeg a5)) else (F_115_215 T a1 2 a1 (sp M22 (lMa 32) a1.toNatClampNeg a5))))))
set_option maxHeartbeats 1000000 in
theorem W_115_170 {G : kG} {d : Nat} {A : kLb → Nat} {C : kCl} {P : kO → kH → Prop} {T : kT} {M : kM} {h : kH} {a1 : Int32} {a4 : Int32} {a5 : Int32} {b2 b3 : Option Value} {z : ((Int32 × Int32 × kM) ⊕ (Unit × kM))} (hC : C = kRun G (d + 4)) (R : kRl A T M h) (K : (Sum.elim (fun w : (Int32 × Int32 × kM) => ∀ (h : kH) (b3 b4 b5 : Option Value), kRl A T w.2.2 h → kWP G 115 C P 4 [some (.ref (A lMo)), some (.int w.1), some (.int w.2.1), b3, b4, b5] [] h 0 0) (fun z : (Unit × kM) => ∀ h1, kRl A T z.2 h1 → P (.inl none) h1)) z) (hF : F_115_170 T a1 a4 a5 M = some z) : kWP G 115 C P 170 [some (.ref (A lMo)), some (.int a1), b2, b3, some (.int a4), some (.int a5)] [] h 0 0 := by
  unfold F_115_170 at hF
  refine k_aload_n (pc := 170) i_115_170 rfl rfl ?_
  refine k_iload (pc := 171) i_115_171 rfl ?_
  obtain ⟨r21, M22, q23, hF⟩ := kBd_el hF
  refine kcv_V (pc := 173) (As := [.ref (A lMo), .int a4]) (st := []) (A := A) (T := T) (r := r21) (M1 := M22) i_115_173 m_7_152 rfl rfl rfl rfl (rd_Mo R) rfl (Nat.le_of_ble_eq_true rfl) (hC ▸ D_116 R q23) (fun h R => ?_)
  refine k_aload_n (pc := 176) i_115_176 rfl rfl ?_
  refine k_getf (pc := 177) i_115_177 f_7_73 (rd_Mo R) rfl ?_
  refine k_iload_n (pc := 180) i_115_180 rfl ?_
  refine k_iload (pc := 181) i_115_181 rfl ?_
  obtain ⟨g24, hF⟩ := kGx_el hF
  refine k_iast (pc := 183) i_115_183 (rd_Ma_32 R) g24 (fun h e25 => ?_)
  replace R := kRl_sp (l := (lMa 32)) (k := a1.toNatClampNeg) (v := a5) R rfl e25
  clear e25
  refine k_aload_n (pc := 184) i_115_184 rfl rfl ?_
  refine k_getf (pc := 185) i_115_185 f_7_76 (rd_Mo R) rfl ?_
  refine k_iload_n (pc := 188) i_115_188 rfl ?_
  refine k_iload (pc := 189) i_115_189 rfl ?_
  refine k_if_ne (pc := 191) (tgt := 198) i_115_191 (by decide) (fun c26 => ?_) (fun c26 => ?_)
  · rw [if_neg c26] at hF
    refine k_iload (pc := 198) i_115_198 rfl ?_
    refine k_iconst (pc := 200) (v := 3) i_115_200 (by decide) ?_
    refine k_icmp_lt (pc := 201) (tgt := 214) i_115_201 (by decide) (fun c27 => ?_) (fun c27 => ?_)
    · rw [if_pos c27] at hF
      refine k_iconst (pc := 214) (v := 1) i_115_214 (by decide) ?_
      exact W_115_215 (d := d) hC R K hF
    · rw [if_neg c27] at hF
      refine k_iload (pc := 204) i_115_204 rfl ?_
      refine k_iconst (pc := 206) (v := 5) i_115_206 (by decide) ?_
      refine k_icmp_gt (pc := 207) (tgt := 214) i_115_207 (by decide) (fun c28 => ?_) (fun c28 => ?_)
      · rw [if_pos c28] at hF
        refine k_iconst (pc := 214) (v := 1) i_115_214 (by decide) ?_
        exact W_115_215 (d := d) hC R K hF
      · rw [if_neg c28] at hF
        refine k_iconst (pc := 210) (v := 2) i_115_210 (by decide) ?_
        refine k_goto (pc := 211) (tgt := 215) i_115_211 (by decide) ?_
        exact W_115_215 (d := d) hC R K hF
  · rw [if_pos c26] at hF
    refine k_iconst (pc := 194) (v := 0) i_115_194 (by decide) ?_
    refine k_goto (pc := 195) (tgt := 215) i_115_195 (by decide) ?_
    exact W_115_215 (d := d) hC R K hF
noncomputable def F_115_94 (T : kT) (a1 : Int32) (a4 : Int32) (a5 : Int32) (s0 : Int32) (s1 : Int32) (M : kM) : Option ((Int32 × Int32 × kM) ⊕ (Unit × kM)) :=
  kGx s1 60 (kGx a5 60 (kGx a5 60 (kGx a5 60 (if a1 ≤ 0 then (F_115_170 T a1 a4 a5 (sp (sp (sp (sp M (lMa 18) s1.toNatClampNeg s0) (lMa 19) a5.toNatClampNeg (-1)) (lMa 20) a5.toNatClampNeg (-1)) (lMa 34) a5.toNatClampNeg a5)) else (kGx a5 60 (kGx (gp (sp (sp (sp (sp M (lMa 18) s1.toNatClampNeg s0) (lMa 19) a5.toNatClampNeg (-1)) (lMa 20) a5.toNatClampNeg (-1)) (lMa 34) a5.toNatClampNeg a5) (lMa 18) a5.toNatClampNeg) 60 (if 0 ≤ (gp (sp (sp (sp (sp M (lMa 18) s1.toNatClampNeg s0) (lMa 19) a5.toNatClampNeg (-1)) (lMa 20) a5.toNatClampNeg (-1)) (lMa 34) a5.toNatClampNeg a5) (lMa 19) (gp (sp (sp (sp (sp M (lMa 18) s1.toNatClampNeg s0) (lMa 19) a5.toNatClampNeg (-1)) (lMa 20) a5.toNatClampNeg (-1)) (lMa 34) a5.toNatClampNeg a5) (lMa 18) a5.toNatClampNeg).toNatClampNeg) then (kGx a5 60 (kGx (gp (sp (sp (sp (sp M (lMa 18) s1.toNatClampNeg s0) (lMa 19) a5.toNatClampNeg (-1)) (lMa 20) a5.toNatClampNeg (-1)) (lMa 34) a5.toNatClampNeg a5) (lMa 18) a5.toNatClampNeg) 60 (F_115_170 T a1 a4 a5 (sp (sp (sp (sp (sp M (lMa 18) s1.toNatClampNeg s0) (lMa 19) a5.toNatClampNeg (-1)) (lMa 20) a5.toNatClampNeg (-1)) (lMa 34) a5.toNatClampNeg a5) (lMa 20) (gp (sp (sp (sp (sp M (lMa 18) s1.toNatClampNeg s0) (lMa 19) a5.toNatClampNeg (-1)) (lMa 20) a5.toNatClampNeg (-1)) (lMa 34) a5.toNatClampNeg a5) (lMa 18) a5.toNatClampNeg).toNatClampNeg a5)))) else (kGx a5 60 (kGx (gp (sp (sp (sp (sp M (lMa 18) s1.toNatClampNeg s0) (lMa 19) a5.toNatClampNeg (-1)) (lMa 20) a5.toNatClampNeg (-1)) (lMa 34) a5.toNatClampNeg a5) (lMa 18) a5.toNatClampNeg) 60 (F_115_170 T a1 a4 a5 (sp (sp (sp (sp (sp M (lMa 18) s1.toNatClampNeg s0) (lMa 19) a5.toNatClampNeg (-1)) (lMa 20) a5.toNatClampNeg (-1)) (lMa 34) a5.toNatClampNeg a5) (lMa 19) (gp (sp (sp (sp (sp M (lMa 18) s1.toNatClampNeg s0) (lMa 19) a5.toNatClampNeg (-1)) (lMa 20) a5.toNatClampNeg (-1)) (lMa 34) a5.toNatClampNeg a5) (lMa 18) a5.toNatClampNeg).toNatClampNeg a5)))))))))))
set_option maxHeartbeats 1000000 in
theorem W_115_94 {G : kG} {d : Nat} {A : kLb → Nat} {C : kCl} {P : kO → kH → Prop} {T : kT} {M : kM} {h : kH} {a1 : Int32} {a4 : Int32} {a5 : Int32} {s0 : Int32} {s1 : Int32} {b2 b3 : Option Value} {z : ((Int32 × Int32 × kM) ⊕ (Unit × kM))} (hC : C = kRun G (d + 4)) (R : kRl A T M h) (K : (Sum.elim (fun w : (Int32 × Int32 × kM) => ∀ (h : kH) (b3 b4 b5 : Option Value), kRl A T w.2.2 h → kWP G 115 C P 4 [some (.ref (A lMo)), some (.int w.1), some (.int w.2.1), b3, b4, b5] [] h 0 0) (fun z : (Unit × kM) => ∀ h1, kRl A T z.2 h1 → P (.inl none) h1)) z) (hF : F_115_94 T a1 a4 a5 s0 s1 M = some z) : kWP G 115 C P 94 [some (.ref (A lMo)), some (.int a1), b2, b3, some (.int a4), some (.int a5)] [.int s0, .int s1, .ref (A (lMa 18))] h 0 0 := by
  unfold F_115_94 at hF
  obtain ⟨g12, hF⟩ := kGx_el hF
  refine k_iast (pc := 94) i_115_94 (rd_Ma_18 R) g12 (fun h e13 => ?_)
  replace R := kRl_sp (l := (lMa 18)) (k := s1.toNatClampNeg) (v := s0) R rfl e13
  clear e13
  refine k_aload_n (pc := 95) i_115_95 rfl rfl ?_
  refine k_getf (pc := 96) i_115_96 f_7_48 (rd_Mo R) rfl ?_
  refine k_iload (pc := 99) i_115_99 rfl ?_
  refine k_iconst (pc := 101) (v := (-1)) i_115_101 (by decide) ?_
  obtain ⟨g14, hF⟩ := kGx_el hF
  refine k_iast (pc := 102) i_115_102 (rd_Ma_19 R) g14 (fun h e15 => ?_)
  replace R := kRl_sp (l := (lMa 19)) (k := a5.toNatClampNeg) (v := (-1)) R rfl e15
  clear e15
  refine k_aload_n (pc := 103) i_115_103 rfl rfl ?_
  refine k_getf (pc := 104) i_115_104 f_7_51 (rd_Mo R) rfl ?_
  refine k_iload (pc := 107) i_115_107 rfl ?_
  refine k_iconst (pc := 109) (v := (-1)) i_115_109 (by decide) ?_
  obtain ⟨g16, hF⟩ := kGx_el hF
  refine k_iast (pc := 110) i_115_110 (rd_Ma_20 R) g16 (fun h e17 => ?_)
  replace R := kRl_sp (l := (lMa 20)) (k := a5.toNatClampNeg) (v := (-1)) R rfl e17
  clear e17
  refine k_aload_n (pc := 111) i_115_111 rfl rfl ?_
  refine k_getf (pc := 112) i_115_112 f_7_79 (rd_Mo R) rfl ?_
  refine k_iload (pc := 115) i_115_115 rfl ?_
  refine k_iload (pc := 117) i_115_117 rfl ?_
  obtain ⟨g18, hF⟩ := kGx_el hF
  refine k_iast (pc := 119) i_115_119 (rd_Ma_34 R) g18 (fun h e19 => ?_)
  replace R := kRl_sp (l := (lMa 34)) (k := a5.toNatClampNeg) (v := a5) R rfl e19
  clear e19
  refine k_iload_n (pc := 120) i_115_120 rfl ?_
  refine k_if_le (pc := 121) (tgt := 170) i_115_121 (by decide) (fun c20 => ?_) (fun c20 => ?_)
  · rw [if_pos c20] at hF
    exact W_115_170 (d := d) hC R K hF
  · rw [if_neg c20] at hF
    refine k_aload_n (pc := 124) i_115_124 rfl rfl ?_
    refine k_getf (pc := 125) i_115_125 f_7_48 (rd_Mo R) rfl ?_
    refine k_aload_n (pc := 128) i_115_128 rfl rfl ?_
    refine k_getf (pc := 129) i_115_129 f_7_45 (rd_Mo R) rfl ?_
    refine k_iload (pc := 132) i_115_132 rfl ?_
    obtain ⟨g21, hF⟩ := kGx_el hF
    refine k_iald (pc := 134) i_115_134 (rd_Ma_18 R) g21 ?_
    obtain ⟨g22, hF⟩ := kGx_el hF
    refine k_iald (pc := 135) i_115_135 (rd_Ma_19 R) g22 ?_
    refine k_if_ge (pc := 136) (tgt := 156) i_115_136 (by decide) (fun c23 => ?_) (fun c23 => ?_)
    · rw [if_pos c23] at hF
      refine k_aload_n (pc := 156) i_115_156 rfl rfl ?_
      refine k_getf (pc := 157) i_115_157 f_7_51 (rd_Mo R) rfl ?_
      refine k_aload_n (pc := 160) i_115_160 rfl rfl ?_
      refine k_getf (pc := 161) i_115_161 f_7_45 (rd_Mo R) rfl ?_
      refine k_iload (pc := 164) i_115_164 rfl ?_
      obtain ⟨g24, hF⟩ := kGx_el hF
      refine k_iald (pc := 166) i_115_166 (rd_Ma_18 R) g24 ?_
      refine k_iload (pc := 167) i_115_167 rfl ?_
      obtain ⟨g25, hF⟩ := kGx_el hF
      refine k_iast (pc := 169) i_115_169 (rd_Ma_20 R) g25 (fun h e26 => ?_)
      replace R := kRl_sp (l := (lMa 20)) (k := (gp (sp (sp (sp (sp M (lMa 18) s1.toNatClampNeg s0) (lMa 19) a5.toNatClampNeg (-1)) (lMa 20) a5.toNatClampNeg (-1)) (lMa 34) a5.toNatClampNeg a5) (lMa 18) a5.toNatClampNeg).toNatClampNeg) (v := a5) R rfl e26
      clear e26
      exact W_115_170 (d := d) hC R K hF
    · rw [if_neg c23] at hF
      refine k_aload_n (pc := 139) i_115_139 rfl rfl ?_
      refine k_getf (pc := 140) i_115_140 f_7_48 (rd_Mo R) rfl ?_
      refine k_aload_n (pc := 143) i_115_143 rfl rfl ?_
      refine k_getf (pc := 144) i_115_144 f_7_45 (rd_Mo R) rfl ?_
      refine k_iload (pc := 147) i_115_147 rfl ?_
      obtain ⟨g27, hF⟩ := kGx_el hF
      refine k_iald (pc := 149) i_115_149 (rd_Ma_18 R) g27 ?_
      refine k_iload (pc := 150) i_115_150 rfl ?_
      obtain ⟨g28, hF⟩ := kGx_el hF
      refine k_iast (pc := 152) i_115_152 (rd_Ma_19 R) g28 (fun h e29 => ?_)
      replace R := kRl_sp (l := (lMa 19)) (k := (gp (sp (sp (sp (sp M (lMa 18) s1.toNatClampNeg s0) (lMa 19) a5.toNatClampNeg (-1)) (lMa 20) a5.toNatClampNeg (-1)) (lMa 34) a5.toNatClampNeg a5) (lMa 18) a5.toNatClampNeg).toNatClampNeg) (v := a5) R rfl e29
      clear e29
      refine k_goto (pc := 153) (tgt := 170) i_115_153 (by decide) ?_
      exact W_115_170 (d := d) hC R K hF
noncomputable def F_115_40 (T : kT) (a1 : Int32) (a3 : Int32) (a4 : Int32) (M : kM) : Option ((Int32 × Int32 × kM) ⊕ (Unit × kM)) :=
  if (gp M lMo 23) < 0 then (kGx (gp M lMo 16) 60 (if a1 ≤ 0 then (F_115_94 T a1 a4 (gp M lMo 16) (-1) (gp M lMo 16) (sp (sp M lMo 16 ((gp M lMo 16) + 1)) (lMa 17) (gp M lMo 16).toNatClampNeg a3)) else (kGx (a1 - 1) 60 (F_115_94 T a1 a4 (gp M lMo 16) (gp (sp (sp M lMo 16 ((gp M lMo 16) + 1)) (lMa 17) (gp M lMo 16).toNatClampNeg a3) (lMa 32) (a1 - 1).toNatClampNeg) (gp M lMo 16) (sp (sp M lMo 16 ((gp M lMo 16) + 1)) (lMa 17) (gp M lMo 16).toNatClampNeg a3))))) else (some (.inr (((), M))))
set_option maxHeartbeats 1000000 in
theorem W_115_40 {G : kG} {d : Nat} {A : kLb → Nat} {C : kCl} {P : kO → kH → Prop} {T : kT} {M : kM} {h : kH} {a1 : Int32} {a3 : Int32} {a4 : Int32} {b2 b5 : Option Value} {z : ((Int32 × Int32 × kM) ⊕ (Unit × kM))} (hC : C = kRun G (d + 4)) (R : kRl A T M h) (K : (Sum.elim (fun w : (Int32 × Int32 × kM) => ∀ (h : kH) (b3 b4 b5 : Option Value), kRl A T w.2.2 h → kWP G 115 C P 4 [some (.ref (A lMo)), some (.int w.1), some (.int w.2.1), b3, b4, b5] [] h 0 0) (fun z : (Unit × kM) => ∀ h1, kRl A T z.2 h1 → P (.inl none) h1)) z) (hF : F_115_40 T a1 a3 a4 M = some z) : kWP G 115 C P 40 [some (.ref (A lMo)), some (.int a1), b2, some (.int a3), some (.int a4), b5] [] h 0 0 := by
  unfold F_115_40 at hF
  refine k_aload_n (pc := 40) i_115_40 rfl rfl ?_
  refine k_getf (pc := 41) i_115_41 f_7_133 (rd_Mo R) rfl ?_
  refine k_if_lt (pc := 44) (tgt := 48) i_115_44 (by decide) (fun c7 => ?_) (fun c7 => ?_)
  · rw [if_pos c7] at hF
    refine k_aload_n (pc := 48) i_115_48 rfl rfl ?_
    refine k_getf (pc := 49) i_115_49 f_7_149 (rd_Mo R) rfl ?_
    refine k_istore (pc := 52) (lo2 := [some (.ref (A lMo)), some (.int a1), b2, some (.int a3), some (.int a4), some (.int (gp M lMo 16))]) i_115_52 (Nat.le_of_ble_eq_true rfl) rfl ?_
    refine k_aload_n (pc := 54) i_115_54 rfl rfl ?_
    refine k_dup (pc := 55) i_115_55 rfl ?_
    refine k_getf (pc := 56) i_115_56 f_7_149 (rd_Mo R) rfl ?_
    refine k_iconst (pc := 59) (v := 1) i_115_59 (by decide) ?_
    refine k_iadd (pc := 60) i_115_60 ?_
    refine k_putf (pc := 61) i_115_61 f_7_149 (rd_Mo R) (by decide +kernel) (Nat.le_of_ble_eq_true rfl) rfl rfl rfl (fun h e8 => ?_)
    replace R := kRl_sp (l := lMo) (k := 16) (v := (gp M lMo 16) + 1) R rfl e8
    clear e8
    refine k_aload_n (pc := 64) i_115_64 rfl rfl ?_
    refine k_getf (pc := 65) i_115_65 f_7_42 (rd_Mo R) rfl ?_
    refine k_iload (pc := 68) i_115_68 rfl ?_
    refine k_iload_n (pc := 70) i_115_70 rfl ?_
    obtain ⟨g9, hF⟩ := kGx_el hF
    refine k_iast (pc := 71) i_115_71 (rd_Ma_17 R) g9 (fun h e10 => ?_)
    replace R := kRl_sp (l := (lMa 17)) (k := (gp M lMo 16).toNatClampNeg) (v := a3) R rfl e10
    clear e10
    refine k_aload_n (pc := 72) i_115_72 rfl rfl ?_
    refine k_getf (pc := 73) i_115_73 f_7_45 (rd_Mo R) rfl ?_
    refine k_iload (pc := 76) i_115_76 rfl ?_
    refine k_iload_n (pc := 78) i_115_78 rfl ?_
    refine k_if_le (pc := 79) (tgt := 93) i_115_79 (by decide) (fun c11 => ?_) (fun c11 => ?_)
    · rw [if_pos c11] at hF
      refine k_iconst (pc := 93) (v := (-1)) i_115_93 (by decide) ?_
      exact W_115_94 (d := d) hC R K hF
    · rw [if_neg c11] at hF
      refine k_aload_n (pc := 82) i_115_82 rfl rfl ?_
      refine k_getf (pc := 83) i_115_83 f_7_73 (rd_Mo R) rfl ?_
      refine k_iload_n (pc := 86) i_115_86 rfl ?_
      refine k_iconst (pc := 87) (v := 1) i_115_87 (by decide) ?_
      refine k_isub (pc := 88) i_115_88 ?_
      obtain ⟨g12, hF⟩ := kGx_el hF
      refine k_iald (pc := 89) i_115_89 (rd_Ma_32 R) g12 ?_
      refine k_goto (pc := 90) (tgt := 94) i_115_90 (by decide) ?_
      exact W_115_94 (d := d) hC R K hF
  · rw [if_neg c7] at hF
    obtain rfl := Option.some.inj hF
    exact k_return (pc := 47) i_115_47 rfl (K _ R)
noncomputable def B_115_4 (T : kT) (a1 : Int32) (a2 : Int32) (M : kM) : Option ((Int32 × Int32 × kM) ⊕ (Unit × kM)) :=
  if a2 = 0 then (some (.inr (((), M)))) else (if 0 ≤ (gp M lMo 23) then (some (.inr (((), M)))) else (kBd (F_113 T 0 10 M) (fun r3 M4 => if a1 < 10 then (F_115_40 T a1 (gp M lMo 22) r3 M4) else (kBd (F_112 T (gp M lMo 22) M4) (fun r7 M8 => F_115_40 T a1 (gp M lMo 22) r3 M8)))))
noncomputable def F_115_4 (T : kT) (a1 : Int32) (a2 : Int32) (M : kM) : Option (Unit × kM) :=
  kWh (fun w : (Int32 × Int32 × kM) => B_115_4 T w.1 w.2.1 w.2.2) (a1, a2, M)
theorem F_115_4_eq (T : kT) (a1 : Int32) (a2 : Int32) (M : kM) : F_115_4 T a1 a2 M = kAg (B_115_4 T a1 a2 M) (fun w => F_115_4 T w.1 w.2.1 w.2.2) := by
  unfold F_115_4
  rw [kWh_eq]
set_option maxHeartbeats 1000000 in
theorem W_115_4 {G : kG} {d : Nat} {A : kLb → Nat} {C : kCl} {P : kO → kH → Prop} {T : kT} {M : kM} {h : kH} {a1 : Int32} {a2 : Int32} {b3 b4 b5 : Option Value} {z : (Unit × kM)} (hC : C = kRun G (d + 4)) (R : kRl A T M h) (K : (fun z : (Unit × kM) => ∀ h1, kRl A T z.2 h1 → P (.inl none) h1) z) (hF : F_115_4 T a1 a2 M = some z) : kWP G 115 C P 4 [some (.ref (A lMo)), some (.int a1), some (.int a2), b3, b4, b5] [] h 0 0 := by
  refine kWh_ind (P := (fun w : (Int32 × Int32 × kM) => ∀ (h : kH) (b3 b4 b5 : Option Value), kRl A T w.2.2 h → kWP G 115 C P 4 [some (.ref (A lMo)), some (.int w.1), some (.int w.2.1), b3, b4, b5] [] h 0 0)) (Q := (fun z : (Unit × kM) => ∀ h1, kRl A T z.2 h1 → P (.inl none) h1)) hF K ?_ h _ _ _ R
  clear hF K R
  intro w z hF K h b3 b4 b5 R
  obtain ⟨a1, a2, M⟩ := w
  change B_115_4 T a1 a2 M = some z at hF
  change kWP G 115 C P 4 [some (.ref (A lMo)), some (.int a1), some (.int a2), b3, b4, b5] [] h 0 0
  unfold B_115_4 at hF
  refine k_iload_n (pc := 4) i_115_4 rfl ?_
  refine k_if_eq (pc := 5) (tgt := 313) i_115_5 (by decide) (fun c1 => ?_) (fun c1 => ?_)
  · rw [if_pos c1] at hF
    obtain rfl := Option.some.inj hF
    exact k_return (pc := 313) i_115_313 rfl (K _ R)
  · rw [if_neg c1] at hF
    refine k_aload_n (pc := 8) i_115_8 rfl rfl ?_
    refine k_getf (pc := 9) i_115_9 f_7_133 (rd_Mo R) rfl ?_
    refine k_if_ge (pc := 12) (tgt := 313) i_115_12 (by decide) (fun c2 => ?_) (fun c2 => ?_)
    · rw [if_pos c2] at hF
      obtain rfl := Option.some.inj hF
      exact k_return (pc := 313) i_115_313 rfl (K _ R)
    · rw [if_neg c2] at hF
      refine k_aload_n (pc := 15) i_115_15 rfl rfl ?_
      refine k_getf (pc := 16) i_115_16 f_7_136 (rd_Mo R) rfl ?_
      refine k_istore_n (pc := 19) (lo2 := [some (.ref (A lMo)), some (.int a1), some (.int a2), some (.int (gp M lMo 22)), b4, b5]) i_115_19 (Nat.le_of_ble_eq_true rfl) rfl ?_
      refine k_aload_n (pc := 20) i_115_20 rfl rfl ?_
      refine k_iconst (pc := 21) (v := 0) i_115_21 (by decide) ?_
      refine k_bipush (pc := 22) (v := 10) i_115_22 (by decide) ?_
      obtain ⟨r3, M4, q5, hF⟩ := kBd_el hF
      refine kcv_I (pc := 24) (As := [.ref (A lMo), .int 0, .int 10]) (st := []) (A := A) (T := T) (r := r3) (M1 := M4) i_115_24 m_7_145 rfl rfl rfl rfl (rd_Mo R) rfl (Nat.le_of_ble_eq_true rfl) (hC ▸ D_113 R q5) (fun h R => ?_)
      refine k_istore (pc := 27) (lo2 := [some (.ref (A lMo)), some (.int a1), some (.int a2), some (.int (gp M lMo 22)), some (.int r3), b5]) i_115_27 (Nat.le_of_ble_eq_true rfl) rfl ?_
      refine k_iload_n (pc := 29) i_115_29 rfl ?_
      refine k_bipush (pc := 30) (v := 10) i_115_30 (by decide) ?_
      refine k_icmp_lt (pc := 32) (tgt := 40) i_115_32 (by decide) (fun c6 => ?_) (fun c6 => ?_)
      · rw [if_pos c6] at hF
        exact W_115_40 (d := d) hC R K hF
      · rw [if_neg c6] at hF
        refine k_aload_n (pc := 35) i_115_35 rfl rfl ?_
        refine k_iload_n (pc := 36) i_115_36 rfl ?_
        obtain ⟨r7, M8, q9, hF⟩ := kBd_el hF
        refine kcv_V (pc := 37) (As := [.ref (A lMo), .int (gp M lMo 22)]) (st := []) (A := A) (T := T) (r := r7) (M1 := M8) i_115_37 m_7_139 rfl rfl rfl rfl (rd_Mo R) rfl (Nat.le_of_ble_eq_true rfl) (hC ▸ D_112 R q9) (fun h R => ?_)
        exact W_115_40 (d := d) hC R K hF
noncomputable def F_115 (T : kT) (M : kM) : Option (Unit × kM) :=
  F_115_4 T 0 1 M
set_option maxHeartbeats 1000000 in
theorem D_115 {G : kG} {d : Nat} {A : kLb → Nat} {T : kT} {M : kM} {h : kH} {z : (Unit × kM)} (R : kRl A T M h) (hF : F_115 T  M = some z) : kRun G (d + 5) 115 [.ref (A lMo)] h 0 0 (kPV A T z) := by
  refine ⟨⟨rfl, Nat.le_of_ble_eq_true rfl⟩, ?_⟩
  show kWP _ _ (kRun G (d + 4)) _ 0 [some (.ref (A lMo)), none, none, none, none, none] [] _ _ _
  have K : (fun z : (Unit × kM) => ∀ h1, kRl A T z.2 h1 → kPV A T z (.inl none) h1) z := fun _ q => ⟨rfl, q⟩
  unfold F_115 at hF
  refine k_iconst (pc := 0) (v := 0) i_115_0 (by decide) ?_
  refine k_istore_n (pc := 1) (lo2 := [some (.ref (A lMo)), some (.int 0), none, none, none, none]) i_115_1 (Nat.le_of_ble_eq_true rfl) rfl ?_
  refine k_iconst (pc := 2) (v := 1) i_115_2 (by decide) ?_
  refine k_istore_n (pc := 3) (lo2 := [some (.ref (A lMo)), some (.int 0), some (.int 1), none, none, none]) i_115_3 (Nat.le_of_ble_eq_true rfl) rfl ?_
  exact W_115_4 (d := d) rfl R K hF
-- 122: RDModel anew
noncomputable def B_122_2 (T : kT) (a1 : Int32) (a2 : Int32) (M : kM) : Option ((Int32 × kM) ⊕ (Unit × kM)) :=
  kGx a1 60 (if (gp M (lMa 34) a1.toNatClampNeg) < a2 then (some (.inr (((), M)))) else (kGx a2 60 (kGx a2 60 (kGx a2 60 (some (.inl ((a2 + 1), sp (sp (sp M (lMa 38) a2.toNatClampNeg 0) (lMa 26) a2.toNatClampNeg 0) (lMa 39) a2.toNatClampNeg 0)))))))
noncomputable def F_122_2 (T : kT) (a1 : Int32) (a2 : Int32) (M : kM) : Option (Unit × kM) :=
  kWh (fun w : (Int32 × kM) => B_122_2 T a1 w.1 w.2) (a2, M)
theorem F_122_2_eq (T : kT) (a1 : Int32) (a2 : Int32) (M : kM) : F_122_2 T a1 a2 M = kAg (B_122_2 T a1 a2 M) (fun w => F_122_2 T a1 w.1 w.2) := by
  unfold F_122_2
  rw [kWh_eq]
set_option maxHeartbeats 1000000 in
theorem W_122_2 {G : kG} {d : Nat} {A : kLb → Nat} {C : kCl} {P : kO → kH → Prop} {T : kT} {M : kM} {h : kH} {a1 : Int32} {a2 : Int32} {z : (Unit × kM)} (hC : C = kRun G (d + 0)) (R : kRl A T M h) (K : (fun z : (Unit × kM) => ∀ h1, kRl A T z.2 h1 → P (.inl none) h1) z) (hF : F_122_2 T a1 a2 M = some z) : kWP G 122 C P 2 [some (.ref (A lMo)), some (.int a1), some (.int a2)] [] h 0 0 := by
  refine kWh_ind (P := (fun w : (Int32 × kM) => ∀ (h : kH), kRl A T w.2 h → kWP G 122 C P 2 [some (.ref (A lMo)), some (.int a1), some (.int w.1)] [] h 0 0)) (Q := (fun z : (Unit × kM) => ∀ h1, kRl A T z.2 h1 → P (.inl none) h1)) hF K ?_ h R
  clear hF K R
  intro w z hF K h R
  obtain ⟨a2, M⟩ := w
  change B_122_2 T a1 a2 M = some z at hF
  change kWP G 122 C P 2 [some (.ref (A lMo)), some (.int a1), some (.int a2)] [] h 0 0
  unfold B_122_2 at hF
  refine k_iload_n (pc := 2) i_122_2 rfl ?_
  refine k_aload_n (pc := 3) i_122_3 rfl rfl ?_
  refine k_getf (pc := 4) i_122_4 f_7_79 (rd_Mo R) rfl ?_
  refine k_iload_n (pc := 7) i_122_7 rfl ?_
  obtain ⟨g1, hF⟩ := kGx_el hF
  refine k_iald (pc := 8) i_122_8 (rd_Ma_34 R) g1 ?_
  refine k_icmp_gt (pc := 9) (tgt := 39) i_122_9 (by decide) (fun c2 => ?_) (fun c2 => ?_)
  · rw [if_pos c2] at hF
    obtain rfl := Option.some.inj hF
    exact k_return (pc := 39) i_122_39 rfl (K _ R)
  · rw [if_neg c2] at hF
    refine k_aload_n (pc := 12) i_122_12 rfl rfl ?_
    refine k_getf (pc := 13) i_122_13 f_7_82 (rd_Mo R) rfl ?_
    refine k_iload_n (pc := 16) i_122_16 rfl ?_
    refine k_iconst (pc := 17) (v := 0) i_122_17 (by decide) ?_
    obtain ⟨g3, hF⟩ := kGx_el hF
    refine k_iast (pc := 18) i_122_18 (rd_Ma_38 R) g3 (fun h e4 => ?_)
    replace R := kRl_sp (l := (lMa 38)) (k := a2.toNatClampNeg) (v := 0) R rfl e4
    clear e4
    refine k_aload_n (pc := 19) i_122_19 rfl rfl ?_
    refine k_getf (pc := 20) i_122_20 f_7_57 (rd_Mo R) rfl ?_
    refine k_iload_n (pc := 23) i_122_23 rfl ?_
    refine k_iconst (pc := 24) (v := 0) i_122_24 (by decide) ?_
    obtain ⟨g5, hF⟩ := kGx_el hF
    refine k_iast (pc := 25) i_122_25 (rd_Ma_26 R) g5 (fun h e6 => ?_)
    replace R := kRl_sp (l := (lMa 26)) (k := a2.toNatClampNeg) (v := 0) R rfl e6
    clear e6
    refine k_aload_n (pc := 26) i_122_26 rfl rfl ?_
    refine k_getf (pc := 27) i_122_27 f_7_85 (rd_Mo R) rfl ?_
    refine k_iload_n (pc := 30) i_122_30 rfl ?_
    refine k_iconst (pc := 31) (v := 0) i_122_31 (by decide) ?_
    obtain ⟨g7, hF⟩ := kGx_el hF
    refine k_zast (pc := 32) i_122_32 (rd_Ma_39 R) g7 (fun h e8 => ?_)
    replace R := kRl_sp (l := (lMa 39)) (k := a2.toNatClampNeg) (v := 0) R rfl e8
    clear e8
    refine k_iinc (pc := 33) (v := a2 + 1) (lo2 := [some (.ref (A lMo)), some (.int a1), some (.int (a2 + 1))]) i_122_33 rfl rfl rfl ?_
    refine k_goto (pc := 36) (tgt := 2) i_122_36 (by decide) ?_
    obtain rfl := Option.some.inj hF
    exact K _ R
noncomputable def F_122 (T : kT) (a1 : Int32) (M : kM) : Option (Unit × kM) :=
  F_122_2 T a1 a1 M
set_option maxHeartbeats 1000000 in
theorem D_122 {G : kG} {d : Nat} {A : kLb → Nat} {T : kT} {M : kM} {h : kH} {a1 : Int32} {z : (Unit × kM)} (R : kRl A T M h) (hF : F_122 T a1 M = some z) : kRun G (d + 1) 122 [.ref (A lMo), .int a1] h 0 0 (kPV A T z) := by
  refine ⟨⟨rfl, Nat.le_of_ble_eq_true rfl⟩, ?_⟩
  show kWP _ _ (kRun G (d + 0)) _ 0 [some (.ref (A lMo)), some (.int a1), none] [] _ _ _
  have K : (fun z : (Unit × kM) => ∀ h1, kRl A T z.2 h1 → kPV A T z (.inl none) h1) z := fun _ q => ⟨rfl, q⟩
  unfold F_122 at hF
  refine k_iload_n (pc := 0) i_122_0 rfl ?_
  refine k_istore_n (pc := 1) (lo2 := [some (.ref (A lMo)), some (.int a1), some (.int a1)]) i_122_1 (Nat.le_of_ble_eq_true rfl) rfl ?_
  exact W_122_2 (d := d) rfl R K hF
-- 120: RDModel prepare
noncomputable def F_120_114 (T : kT) (s0 : Int32) (M : kM) : Option (Int32 × kM) :=
  kBd (F_96 T s0 M) (fun r15 M16 => if r15 = 0 then (some (0, M16)) else (kBd (F_122 T 0 (sp (sp (sp M16 lMo 15 1) lMo 35 0) lMo 36 1)) (fun r22 M23 => kGx 0 60 (some (gp M23 (lMa 21) (0 : Int32).toNatClampNeg, M23)))))
set_option maxHeartbeats 1000000 in
theorem W_120_114 {G : kG} {d : Nat} {A : kLb → Nat} {C : kCl} {P : kO → kH → Prop} {T : kT} {M : kM} {h : kH} {s0 : Int32} {b1 : Option Value} {z : (Int32 × kM)} (hC : C = kRun G (d + 5)) (R : kRl A T M h) (K : (fun z : (Int32 × kM) => ∀ h1, kRl A T z.2 h1 → P (.inl (some (.int z.1))) h1) z) (hF : F_120_114 T s0 M = some z) : kWP G 120 C P 114 [some (.ref (A lMo)), b1] [.int s0, .ref (A lMo)] h 0 0 := by
  unfold F_120_114 at hF
  obtain ⟨r15, M16, q17, hF⟩ := kBd_el hF
  refine kcv_I (pc := 114) (As := [.ref (A lMo), .int s0]) (st := []) (A := A) (T := T) (r := r15) (M1 := M16) i_120_114 m_7_113 rfl rfl rfl rfl (rd_Mo R) rfl (Nat.le_of_ble_eq_true rfl) (hC ▸ D_96 R q17) (fun h R => ?_)
  refine k_if_ne (pc := 117) (tgt := 122) i_120_117 (by decide) (fun c18 => ?_) (fun c18 => ?_)
  · rw [if_neg c18] at hF
    refine k_aload_n (pc := 122) i_120_122 rfl rfl ?_
    refine k_iconst (pc := 123) (v := 1) i_120_123 (by decide) ?_
    refine k_putf (pc := 124) i_120_124 f_7_106 (rd_Mo R) (by decide +kernel) (Nat.le_of_ble_eq_true rfl) rfl rfl rfl (fun h e19 => ?_)
    replace R := kRl_sp (l := lMo) (k := 15) (v := 1) R rfl e19
    clear e19
    refine k_aload_n (pc := 127) i_120_127 rfl rfl ?_
    refine k_iconst (pc := 128) (v := 0) i_120_128 (by decide) ?_
    refine k_putf (pc := 129) i_120_129 f_7_178 (rd_Mo R) (by decide +kernel) (Nat.le_of_ble_eq_true rfl) rfl rfl rfl (fun h e20 => ?_)
    replace R := kRl_sp (l := lMo) (k := 35) (v := 0) R rfl e20
    clear e20
    refine k_aload_n (pc := 132) i_120_132 rfl rfl ?_
    refine k_iconst (pc := 133) (v := 1) i_120_133 (by decide) ?_
    refine k_putf (pc := 134) i_120_134 f_7_181 (rd_Mo R) (by decide +kernel) (Nat.le_of_ble_eq_true rfl) rfl rfl rfl (fun h e21 => ?_)
    replace R := kRl_sp (l := lMo) (k := 36) (v := 1) R rfl e21
    clear e21
    refine k_aload_n (pc := 137) i_120_137 rfl rfl ?_
    refine k_iconst (pc := 138) (v := 0) i_120_138 (by decide) ?_
    obtain ⟨r22, M23, q24, hF⟩ := kBd_el hF
    refine kcv_V (pc := 139) (As := [.ref (A lMo), .int 0]) (st := []) (A := A) (T := T) (r := r22) (M1 := M23) i_120_139 m_7_184 rfl rfl rfl rfl (rd_Mo R) rfl (Nat.le_of_ble_eq_true rfl) (hC ▸ D_122 R q24) (fun h R => ?_)
    refine k_aload_n (pc := 142) i_120_142 rfl rfl ?_
    refine k_getf (pc := 143) i_120_143 f_7_54 (rd_Mo R) rfl ?_
    refine k_iconst (pc := 146) (v := 0) i_120_146 (by decide) ?_
    obtain ⟨g25, hF⟩ := kGx_el hF
    refine k_iald (pc := 147) i_120_147 (rd_Ma_21 R) g25 ?_
    obtain rfl := Option.some.inj hF
    exact k_ireturn (pc := 148) i_120_148 rfl rfl (K _ R)
  · rw [if_pos c18] at hF
    refine k_iconst (pc := 120) (v := 0) i_120_120 (by decide) ?_
    obtain rfl := Option.some.inj hF
    exact k_ireturn (pc := 121) i_120_121 rfl rfl (K _ R)
noncomputable def F_120_88 (T : kT) (M : kM) : Option (Int32 × kM) :=
  if 0 ≤ (gp (sp (sp M lMo 11 0) lMo 14 (gp (sp M lMo 11 0) lMo 23)) lMo 23) then (F_120_114 T 0 (sp (sp M lMo 11 0) lMo 14 (gp (sp M lMo 11 0) lMo 23))) else (F_120_114 T 1 (sp (sp M lMo 11 0) lMo 14 (gp (sp M lMo 11 0) lMo 23)))
set_option maxHeartbeats 1000000 in
theorem W_120_88 {G : kG} {d : Nat} {A : kLb → Nat} {C : kCl} {P : kO → kH → Prop} {T : kT} {M : kM} {h : kH} {b1 : Option Value} {z : (Int32 × kM)} (hC : C = kRun G (d + 5)) (R : kRl A T M h) (K : (fun z : (Int32 × kM) => ∀ h1, kRl A T z.2 h1 → P (.inl (some (.int z.1))) h1) z) (hF : F_120_88 T  M = some z) : kWP G 120 C P 88 [some (.ref (A lMo)), b1] [] h 0 0 := by
  unfold F_120_88 at hF
  refine k_aload_n (pc := 88) i_120_88 rfl rfl ?_
  refine k_iconst (pc := 89) (v := 0) i_120_89 (by decide) ?_
  refine k_putf (pc := 90) i_120_90 f_7_130 (rd_Mo R) (by decide +kernel) (Nat.le_of_ble_eq_true rfl) rfl rfl rfl (fun h e12 => ?_)
  replace R := kRl_sp (l := lMo) (k := 11) (v := 0) R rfl e12
  clear e12
  refine k_aload_n (pc := 93) i_120_93 rfl rfl ?_
  refine k_aload_n (pc := 94) i_120_94 rfl rfl ?_
  refine k_getf (pc := 95) i_120_95 f_7_133 (rd_Mo R) rfl ?_
  refine k_putf (pc := 98) i_120_98 f_7_38 (rd_Mo R) (by decide +kernel) (Nat.le_of_ble_eq_true rfl) rfl rfl rfl (fun h e13 => ?_)
  replace R := kRl_sp (l := lMo) (k := 14) (v := gp (sp M lMo 11 0) lMo 23) R rfl e13
  clear e13
  refine k_aload_n (pc := 101) i_120_101 rfl rfl ?_
  refine k_aload_n (pc := 102) i_120_102 rfl rfl ?_
  refine k_getf (pc := 103) i_120_103 f_7_133 (rd_Mo R) rfl ?_
  refine k_if_ge (pc := 106) (tgt := 113) i_120_106 (by decide) (fun c14 => ?_) (fun c14 => ?_)
  · rw [if_pos c14] at hF
    refine k_iconst (pc := 113) (v := 0) i_120_113 (by decide) ?_
    exact W_120_114 (d := d) hC R K hF
  · rw [if_neg c14] at hF
    refine k_iconst (pc := 109) (v := 1) i_120_109 (by decide) ?_
    refine k_goto (pc := 110) (tgt := 114) i_120_110 (by decide) ?_
    exact W_120_114 (d := d) hC R K hF
noncomputable def B_120_2 (T : kT) (a1 : Int32) (M : kM) : Option ((Int32 × kM) ⊕ (Int32 × kM)) :=
  if (gp M lMo 11) ≤ a1 then (kBd (F_115 T  (sp (sp (sp (sp (sp (sp M lMo 22 0) lMo 23 (-1)) lMo 16 0) lMo 15 0) lMo 24 0) lMo 31 0)) (fun r8 M9 => if 0 ≤ (gp M9 lMo 23) then (kLf (F_120_88 T  M9)) else (if (gp M9 lMo 11) ≤ (gp M9 lMo 22) then (kLf (F_120_88 T  M9)) else (kBd (F_112 T (gp M9 lMo 22) M9) (fun r13 M14 => kLf (F_120_88 T  M14)))))) else (kGx a1 60 (kGx a1 60 (some (.inl ((a1 + 1), sp M (lMa 13) a1.toNatClampNeg (gp M (lMa 12) a1.toNatClampNeg))))))
noncomputable def F_120_2 (T : kT) (a1 : Int32) (M : kM) : Option (Int32 × kM) :=
  kWh (fun w : (Int32 × kM) => B_120_2 T w.1 w.2) (a1, M)
theorem F_120_2_eq (T : kT) (a1 : Int32) (M : kM) : F_120_2 T a1 M = kAg (B_120_2 T a1 M) (fun w => F_120_2 T w.1 w.2) := by
  unfold F_120_2
  rw [kWh_eq]
set_option maxHeartbeats 1000000 in
theorem W_120_2 {G : kG} {d : Nat} {A : kLb → Nat} {C : kCl} {P : kO → kH → Prop} {T : kT} {M : kM} {h : kH} {a1 : Int32} {z : (Int32 × kM)} (hC : C = kRun G (d + 5)) (R : kRl A T M h) (K : (fun z : (Int32 × kM) => ∀ h1, kRl A T z.2 h1 → P (.inl (some (.int z.1))) h1) z) (hF : F_120_2 T a1 M = some z) : kWP G 120 C P 2 [some (.ref (A lMo)), some (.int a1)] [] h 0 0 := by
  refine kWh_ind (P := (fun w : (Int32 × kM) => ∀ (h : kH), kRl A T w.2 h → kWP G 120 C P 2 [some (.ref (A lMo)), some (.int w.1)] [] h 0 0)) (Q := (fun z : (Int32 × kM) => ∀ h1, kRl A T z.2 h1 → P (.inl (some (.int z.1))) h1)) hF K ?_ h R
  clear hF K R
  intro w z hF K h R
  obtain ⟨a1, M⟩ := w
  change B_120_2 T a1 M = some z at hF
  change kWP G 120 C P 2 [some (.ref (A lMo)), some (.int a1)] [] h 0 0
  unfold B_120_2 at hF
  refine k_iload_n (pc := 2) i_120_2 rfl ?_
  refine k_aload_n (pc := 3) i_120_3 rfl rfl ?_
  refine k_getf (pc := 4) i_120_4 f_7_130 (rd_Mo R) rfl ?_
  refine k_icmp_ge (pc := 7) (tgt := 28) i_120_7 (by decide) (fun c1 => ?_) (fun c1 => ?_)
  · rw [if_pos c1] at hF
    refine k_aload_n (pc := 28) i_120_28 rfl rfl ?_
    refine k_iconst (pc := 29) (v := 0) i_120_29 (by decide) ?_
    refine k_putf (pc := 30) i_120_30 f_7_136 (rd_Mo R) (by decide +kernel) (Nat.le_of_ble_eq_true rfl) rfl rfl rfl (fun h e2 => ?_)
    replace R := kRl_sp (l := lMo) (k := 22) (v := 0) R rfl e2
    clear e2
    refine k_aload_n (pc := 33) i_120_33 rfl rfl ?_
    refine k_iconst (pc := 34) (v := (-1)) i_120_34 (by decide) ?_
    refine k_putf (pc := 35) i_120_35 f_7_133 (rd_Mo R) (by decide +kernel) (Nat.le_of_ble_eq_true rfl) rfl rfl rfl (fun h e3 => ?_)
    replace R := kRl_sp (l := lMo) (k := 23) (v := (-1)) R rfl e3
    clear e3
    refine k_aload_n (pc := 38) i_120_38 rfl rfl ?_
    refine k_iconst (pc := 39) (v := 0) i_120_39 (by decide) ?_
    refine k_putf (pc := 40) i_120_40 f_7_149 (rd_Mo R) (by decide +kernel) (Nat.le_of_ble_eq_true rfl) rfl rfl rfl (fun h e4 => ?_)
    replace R := kRl_sp (l := lMo) (k := 16) (v := 0) R rfl e4
    clear e4
    refine k_aload_n (pc := 43) i_120_43 rfl rfl ?_
    refine k_iconst (pc := 44) (v := 0) i_120_44 (by decide) ?_
    refine k_putf (pc := 45) i_120_45 f_7_106 (rd_Mo R) (by decide +kernel) (Nat.le_of_ble_eq_true rfl) rfl rfl rfl (fun h e5 => ?_)
    replace R := kRl_sp (l := lMo) (k := 15) (v := 0) R rfl e5
    clear e5
    refine k_aload_n (pc := 48) i_120_48 rfl rfl ?_
    refine k_iconst (pc := 49) (v := 0) i_120_49 (by decide) ?_
    refine k_putf (pc := 50) i_120_50 f_7_169 (rd_Mo R) (by decide +kernel) (Nat.le_of_ble_eq_true rfl) rfl rfl rfl (fun h e6 => ?_)
    replace R := kRl_sp (l := lMo) (k := 24) (v := 0) R rfl e6
    clear e6
    refine k_aload_n (pc := 53) i_120_53 rfl rfl ?_
    refine k_iconst (pc := 54) (v := 0) i_120_54 (by decide) ?_
    refine k_putf (pc := 55) i_120_55 f_7_172 (rd_Mo R) (by decide +kernel) (Nat.le_of_ble_eq_true rfl) rfl rfl rfl (fun h e7 => ?_)
    replace R := kRl_sp (l := lMo) (k := 31) (v := 0) R rfl e7
    clear e7
    refine k_aload_n (pc := 58) i_120_58 rfl rfl ?_
    obtain ⟨r8, M9, q10, hF⟩ := kBd_el hF
    refine kcv_V (pc := 59) (As := [.ref (A lMo)]) (st := []) (A := A) (T := T) (r := r8) (M1 := M9) i_120_59 m_7_175 rfl rfl rfl rfl (rd_Mo R) rfl (Nat.le_of_ble_eq_true rfl) (hC ▸ D_115 R q10) (fun h R => ?_)
    refine k_aload_n (pc := 62) i_120_62 rfl rfl ?_
    refine k_getf (pc := 63) i_120_63 f_7_133 (rd_Mo R) rfl ?_
    refine k_if_ge (pc := 66) (tgt := 88) i_120_66 (by decide) (fun c11 => ?_) (fun c11 => ?_)
    · rw [if_pos c11] at hF
      obtain ⟨z, hG, rfl⟩ := kLf_el hF
      replace hF := hG
      clear hG
      exact W_120_88 (d := d) hC R K hF
    · rw [if_neg c11] at hF
      refine k_aload_n (pc := 69) i_120_69 rfl rfl ?_
      refine k_getf (pc := 70) i_120_70 f_7_136 (rd_Mo R) rfl ?_
      refine k_aload_n (pc := 73) i_120_73 rfl rfl ?_
      refine k_getf (pc := 74) i_120_74 f_7_130 (rd_Mo R) rfl ?_
      refine k_icmp_ge (pc := 77) (tgt := 88) i_120_77 (by decide) (fun c12 => ?_) (fun c12 => ?_)
      · rw [if_pos c12] at hF
        obtain ⟨z, hG, rfl⟩ := kLf_el hF
        replace hF := hG
        clear hG
        exact W_120_88 (d := d) hC R K hF
      · rw [if_neg c12] at hF
        refine k_aload_n (pc := 80) i_120_80 rfl rfl ?_
        refine k_aload_n (pc := 81) i_120_81 rfl rfl ?_
        refine k_getf (pc := 82) i_120_82 f_7_136 (rd_Mo R) rfl ?_
        obtain ⟨r13, M14, q15, hF⟩ := kBd_el hF
        refine kcv_V (pc := 85) (As := [.ref (A lMo), .int (gp M9 lMo 22)]) (st := []) (A := A) (T := T) (r := r13) (M1 := M14) i_120_85 m_7_139 rfl rfl rfl rfl (rd_Mo R) rfl (Nat.le_of_ble_eq_true rfl) (hC ▸ D_112 R q15) (fun h R => ?_)
        obtain ⟨z, hG, rfl⟩ := kLf_el hF
        replace hF := hG
        clear hG
        exact W_120_88 (d := d) hC R K hF
  · rw [if_neg c1] at hF
    refine k_aload_n (pc := 10) i_120_10 rfl rfl ?_
    refine k_getf (pc := 11) i_120_11 f_7_35 (rd_Mo R) rfl ?_
    refine k_iload_n (pc := 14) i_120_14 rfl ?_
    refine k_aload_n (pc := 15) i_120_15 rfl rfl ?_
    refine k_getf (pc := 16) i_120_16 f_7_32 (rd_Mo R) rfl ?_
    refine k_iload_n (pc := 19) i_120_19 rfl ?_
    obtain ⟨g16, hF⟩ := kGx_el hF
    refine k_iald (pc := 20) i_120_20 (rd_Ma_12 R) g16 ?_
    obtain ⟨g17, hF⟩ := kGx_el hF
    refine k_iast (pc := 21) i_120_21 (rd_Ma_13 R) g17 (fun h e18 => ?_)
    replace R := kRl_sp (l := (lMa 13)) (k := a1.toNatClampNeg) (v := gp M (lMa 12) a1.toNatClampNeg) R rfl e18
    clear e18
    refine k_iinc (pc := 22) (v := a1 + 1) (lo2 := [some (.ref (A lMo)), some (.int (a1 + 1))]) i_120_22 rfl rfl rfl ?_
    refine k_goto (pc := 25) (tgt := 2) i_120_25 (by decide) ?_
    obtain rfl := Option.some.inj hF
    exact K _ R
noncomputable def F_120 (T : kT) (M : kM) : Option (Int32 × kM) :=
  F_120_2 T 0 M
set_option maxHeartbeats 1000000 in
theorem D_120 {G : kG} {d : Nat} {A : kLb → Nat} {T : kT} {M : kM} {h : kH} {z : (Int32 × kM)} (R : kRl A T M h) (hF : F_120 T  M = some z) : kRun G (d + 6) 120 [.ref (A lMo)] h 0 0 (kPI A T z) := by
  refine ⟨⟨rfl, Nat.le_of_ble_eq_true rfl⟩, ?_⟩
  show kWP _ _ (kRun G (d + 5)) _ 0 [some (.ref (A lMo)), none] [] _ _ _
  have K : (fun z : (Int32 × kM) => ∀ h1, kRl A T z.2 h1 → kPI A T z (.inl (some (.int z.1))) h1) z := fun _ q => ⟨rfl, q⟩
  unfold F_120 at hF
  refine k_iconst (pc := 0) (v := 0) i_120_0 (by decide) ?_
  refine k_istore_n (pc := 1) (lo2 := [some (.ref (A lMo)), some (.int 0)]) i_120_1 (Nat.le_of_ble_eq_true rfl) rfl ?_
  exact W_120_2 (d := d) rfl R K hF
-- 121: RDModel place
noncomputable def F_121 (T : kT) (M : kM) : Option (Int32 × kM) :=
  some (gp (sp M lMo 0 0) lMo 14, sp M lMo 0 0)
set_option maxHeartbeats 1000000 in
theorem D_121 {G : kG} {d : Nat} {A : kLb → Nat} {T : kT} {M : kM} {h : kH} {z : (Int32 × kM)} (R : kRl A T M h) (hF : F_121 T  M = some z) : kRun G (d + 1) 121 [.ref (A lMo)] h 0 0 (kPI A T z) := by
  refine ⟨⟨rfl, Nat.le_of_ble_eq_true rfl⟩, ?_⟩
  show kWP _ _ (kRun G (d + 0)) _ 0 [some (.ref (A lMo))] [] _ _ _
  have K : (fun z : (Int32 × kM) => ∀ h1, kRl A T z.2 h1 → kPI A T z (.inl (some (.int z.1))) h1) z := fun _ q => ⟨rfl, q⟩
  unfold F_121 at hF
  refine k_aload_n (pc := 0) i_121_0 rfl rfl ?_
  refine k_iconst (pc := 1) (v := 0) i_121_1 (by decide) ?_
  refine k_putf (pc := 2) i_121_2 f_7_88 (rd_Mo R) (by decide +kernel) (Nat.le_of_ble_eq_true rfl) rfl rfl rfl (fun h e1 => ?_)
  replace R := kRl_sp (l := lMo) (k := 0) (v := 0) R rfl e1
  clear e1
  refine k_aload_n (pc := 5) i_121_5 rfl rfl ?_
  refine k_getf (pc := 6) i_121_6 f_7_38 (rd_Mo R) rfl ?_
  obtain rfl := Option.some.inj hF
  exact k_ireturn (pc := 9) i_121_9 rfl rfl (K _ R)
-- 123: RDModel ask
noncomputable def F_123 (T : kT) (a1 : Int32) (M : kM) : Option (Unit × kM) :=
  some ((), sp (sp M lMo 35 a1) lMo 36 1)
set_option maxHeartbeats 1000000 in
theorem D_123 {G : kG} {d : Nat} {A : kLb → Nat} {T : kT} {M : kM} {h : kH} {a1 : Int32} {z : (Unit × kM)} (R : kRl A T M h) (hF : F_123 T a1 M = some z) : kRun G (d + 1) 123 [.ref (A lMo), .int a1] h 0 0 (kPV A T z) := by
  refine ⟨⟨rfl, Nat.le_of_ble_eq_true rfl⟩, ?_⟩
  show kWP _ _ (kRun G (d + 0)) _ 0 [some (.ref (A lMo)), some (.int a1)] [] _ _ _
  have K : (fun z : (Unit × kM) => ∀ h1, kRl A T z.2 h1 → kPV A T z (.inl none) h1) z := fun _ q => ⟨rfl, q⟩
  unfold F_123 at hF
  refine k_aload_n (pc := 0) i_123_0 rfl rfl ?_
  refine k_iload_n (pc := 1) i_123_1 rfl ?_
  refine k_putf (pc := 2) i_123_2 f_7_178 (rd_Mo R) (by decide +kernel) (Nat.le_of_ble_eq_true rfl) rfl rfl rfl (fun h e1 => ?_)
  replace R := kRl_sp (l := lMo) (k := 35) (v := a1) R rfl e1
  clear e1
  refine k_aload_n (pc := 5) i_123_5 rfl rfl ?_
  refine k_iconst (pc := 6) (v := 1) i_123_6 (by decide) ?_
  refine k_putf (pc := 7) i_123_7 f_7_181 (rd_Mo R) (by decide +kernel) (Nat.le_of_ble_eq_true rfl) rfl rfl rfl (fun h e2 => ?_)
  replace R := kRl_sp (l := lMo) (k := 36) (v := 1) R rfl e2
  clear e2
  obtain rfl := Option.some.inj hF
  exact k_return (pc := 10) i_123_10 rfl (K _ R)
-- 124: RDModel tell
noncomputable def F_124 (T : kT) (a1 : Int32) (a2 : Int32) (M : kM) : Option (Unit × kM) :=
  kGd (a2 == 0 || a2 == 1) (some ((), sp (sp (sp M lMo 35 a1) lMo 36 0) lMo 37 a2))
set_option maxHeartbeats 1000000 in
theorem D_124 {G : kG} {d : Nat} {A : kLb → Nat} {T : kT} {M : kM} {h : kH} {a1 : Int32} {a2 : Int32} {z : (Unit × kM)} (R : kRl A T M h) (hF : F_124 T a1 a2 M = some z) : kRun G (d + 1) 124 [.ref (A lMo), .int a1, .int a2] h 0 0 (kPV A T z) := by
  refine ⟨⟨rfl, Nat.le_of_ble_eq_true rfl⟩, ?_⟩
  show kWP _ _ (kRun G (d + 0)) _ 0 [some (.ref (A lMo)), some (.int a1), some (.int a2)] [] _ _ _
  have K : (fun z : (Unit × kM) => ∀ h1, kRl A T z.2 h1 → kPV A T z (.inl none) h1) z := fun _ q => ⟨rfl, q⟩
  unfold F_124 at hF
  refine k_aload_n (pc := 0) i_124_0 rfl rfl ?_
  refine k_iload_n (pc := 1) i_124_1 rfl ?_
  refine k_putf (pc := 2) i_124_2 f_7_178 (rd_Mo R) (by decide +kernel) (Nat.le_of_ble_eq_true rfl) rfl rfl rfl (fun h e1 => ?_)
  replace R := kRl_sp (l := lMo) (k := 35) (v := a1) R rfl e1
  clear e1
  refine k_aload_n (pc := 5) i_124_5 rfl rfl ?_
  refine k_iconst (pc := 6) (v := 0) i_124_6 (by decide) ?_
  refine k_putf (pc := 7) i_124_7 f_7_181 (rd_Mo R) (by decide +kernel) (Nat.le_of_ble_eq_true rfl) rfl rfl rfl (fun h e2 => ?_)
  replace R := kRl_sp (l := lMo) (k := 36) (v := 0) R rfl e2
  clear e2
  refine k_aload_n (pc := 10) i_124_10 rfl rfl ?_
  refine k_iload_n (pc := 11) i_124_11 rfl ?_
  obtain ⟨g3, hF⟩ := kGd_el hF
  refine k_putf (pc := 12) i_124_12 f_7_187 (rd_Mo R) (by decide +kernel) (Nat.le_of_ble_eq_true rfl) (kz_nar g3) (kz_fit g3) rfl (fun h e4 => ?_)
  replace R := kRl_sp (l := lMo) (k := 37) (v := a2) R rfl e4
  clear e4
  obtain rfl := Option.some.inj hF
  exact k_return (pc := 15) i_124_15 rfl (K _ R)
-- 125: RDModel isByIndex
noncomputable def F_125 (T : kT) (a1 : Int32) (M : kM) : Option (Int32 × kM) :=
  kBd (F_118 T a1 M) (fun r1 M2 => if r1 = 1 then (kBd (F_117 T a1 2 M2) (fun r5 M6 => if r5 = 0 then (kGx a1 60 (kBd (F_118 T (gp M6 (lMa 19) a1.toNatClampNeg) M6) (fun r10 M11 => if r10 = 0 then (kGx a1 60 (kBd (F_117 T (gp M11 (lMa 19) a1.toNatClampNeg) 1 M11) (fun r15 M16 => kBd (F_117 T a1 1 M16) (fun r18 M19 => kGx ((r15 * 6) + r18) 36 (if (gp M19 (lMa 3) ((r15 * 6) + r18).toNatClampNeg) = 0 then (some (0, M19)) else (some (1, M19))))))) else (some (0, M11))))) else (some (0, M6)))) else (some (0, M2)))
set_option maxHeartbeats 1000000 in
theorem D_125 {G : kG} {d : Nat} {A : kLb → Nat} {T : kT} {M : kM} {h : kH} {a1 : Int32} {z : (Int32 × kM)} (R : kRl A T M h) (hF : F_125 T a1 M = some z) : kRun G (d + 3) 125 [.ref (A lMo), .int a1] h 0 0 (kPI A T z) := by
  refine ⟨⟨rfl, Nat.le_of_ble_eq_true rfl⟩, ?_⟩
  show kWP _ _ (kRun G (d + 2)) _ 0 [some (.ref (A lMo)), some (.int a1)] [] _ _ _
  have K : (fun z : (Int32 × kM) => ∀ h1, kRl A T z.2 h1 → kPI A T z (.inl (some (.int z.1))) h1) z := fun _ q => ⟨rfl, q⟩
  unfold F_125 at hF
  refine k_aload_n (pc := 0) i_125_0 rfl rfl ?_
  refine k_iload_n (pc := 1) i_125_1 rfl ?_
  obtain ⟨r1, M2, q3, hF⟩ := kBd_el hF
  refine kcv_I (pc := 2) (As := [.ref (A lMo), .int a1]) (st := []) (A := A) (T := T) (r := r1) (M1 := M2) i_125_2 m_7_155 rfl rfl rfl rfl (rd_Mo R) rfl (Nat.le_of_ble_eq_true rfl) (D_118 R q3) (fun h R => ?_)
  refine k_iconst (pc := 5) (v := 1) i_125_5 (by decide) ?_
  refine k_icmp_ne (pc := 6) (tgt := 64) i_125_6 (by decide) (fun c4 => ?_) (fun c4 => ?_)
  · rw [if_neg c4] at hF
    refine k_iconst (pc := 64) (v := 0) i_125_64 (by decide) ?_
    obtain rfl := Option.some.inj hF
    exact k_ireturn (pc := 65) i_125_65 rfl rfl (K _ R)
  · rw [if_pos c4] at hF
    refine k_aload_n (pc := 9) i_125_9 rfl rfl ?_
    refine k_iload_n (pc := 10) i_125_10 rfl ?_
    refine k_iconst (pc := 11) (v := 2) i_125_11 (by decide) ?_
    obtain ⟨r5, M6, q7, hF⟩ := kBd_el hF
    refine kcv_I (pc := 12) (As := [.ref (A lMo), .int a1, .int 2]) (st := []) (A := A) (T := T) (r := r5) (M1 := M6) i_125_12 m_7_166 rfl rfl rfl rfl (rd_Mo R) rfl (Nat.le_of_ble_eq_true rfl) (D_117 R q7) (fun h R => ?_)
    refine k_if_ne (pc := 15) (tgt := 64) i_125_15 (by decide) (fun c8 => ?_) (fun c8 => ?_)
    · rw [if_neg c8] at hF
      refine k_iconst (pc := 64) (v := 0) i_125_64 (by decide) ?_
      obtain rfl := Option.some.inj hF
      exact k_ireturn (pc := 65) i_125_65 rfl rfl (K _ R)
    · rw [if_pos c8] at hF
      refine k_aload_n (pc := 18) i_125_18 rfl rfl ?_
      refine k_aload_n (pc := 19) i_125_19 rfl rfl ?_
      refine k_getf (pc := 20) i_125_20 f_7_48 (rd_Mo R) rfl ?_
      refine k_iload_n (pc := 23) i_125_23 rfl ?_
      obtain ⟨g9, hF⟩ := kGx_el hF
      refine k_iald (pc := 24) i_125_24 (rd_Ma_19 R) g9 ?_
      obtain ⟨r10, M11, q12, hF⟩ := kBd_el hF
      refine kcv_I (pc := 25) (As := [.ref (A lMo), .int (gp M6 (lMa 19) a1.toNatClampNeg)]) (st := []) (A := A) (T := T) (r := r10) (M1 := M11) i_125_25 m_7_155 rfl rfl rfl rfl (rd_Mo R) rfl (Nat.le_of_ble_eq_true rfl) (D_118 R q12) (fun h R => ?_)
      refine k_if_ne (pc := 28) (tgt := 64) i_125_28 (by decide) (fun c13 => ?_) (fun c13 => ?_)
      · rw [if_neg c13] at hF
        refine k_iconst (pc := 64) (v := 0) i_125_64 (by decide) ?_
        obtain rfl := Option.some.inj hF
        exact k_ireturn (pc := 65) i_125_65 rfl rfl (K _ R)
      · rw [if_pos c13] at hF
        refine k_aload_n (pc := 31) i_125_31 rfl rfl ?_
        refine k_getf (pc := 32) i_125_32 f_7_13 (rd_Mo R) rfl ?_
        refine k_aload_n (pc := 35) i_125_35 rfl rfl ?_
        refine k_aload_n (pc := 36) i_125_36 rfl rfl ?_
        refine k_getf (pc := 37) i_125_37 f_7_48 (rd_Mo R) rfl ?_
        refine k_iload_n (pc := 40) i_125_40 rfl ?_
        obtain ⟨g14, hF⟩ := kGx_el hF
        refine k_iald (pc := 41) i_125_41 (rd_Ma_19 R) g14 ?_
        refine k_iconst (pc := 42) (v := 1) i_125_42 (by decide) ?_
        obtain ⟨r15, M16, q17, hF⟩ := kBd_el hF
        refine kcv_I (pc := 43) (As := [.ref (A lMo), .int (gp M11 (lMa 19) a1.toNatClampNeg), .int 1]) (st := [.ref (A (lMa 3))]) (A := A) (T := T) (r := r15) (M1 := M16) i_125_43 m_7_166 rfl rfl rfl rfl (rd_Mo R) rfl (Nat.le_of_ble_eq_true rfl) (D_117 R q17) (fun h R => ?_)
        refine k_bipush (pc := 46) (v := 6) i_125_46 (by decide) ?_
        refine k_imul (pc := 48) i_125_48 ?_
        refine k_aload_n (pc := 49) i_125_49 rfl rfl ?_
        refine k_iload_n (pc := 50) i_125_50 rfl ?_
        refine k_iconst (pc := 51) (v := 1) i_125_51 (by decide) ?_
        obtain ⟨r18, M19, q20, hF⟩ := kBd_el hF
        refine kcv_I (pc := 52) (As := [.ref (A lMo), .int a1, .int 1]) (st := [.int (r15 * 6), .ref (A (lMa 3))]) (A := A) (T := T) (r := r18) (M1 := M19) i_125_52 m_7_166 rfl rfl rfl rfl (rd_Mo R) rfl (Nat.le_of_ble_eq_true rfl) (D_117 R q20) (fun h R => ?_)
        refine k_iadd (pc := 55) i_125_55 ?_
        obtain ⟨g21, hF⟩ := kGx_el hF
        refine k_zald (pc := 56) i_125_56 (rd_Ma_3 R) g21 ?_
        refine k_if_eq (pc := 57) (tgt := 64) i_125_57 (by decide) (fun c22 => ?_) (fun c22 => ?_)
        · rw [if_pos c22] at hF
          refine k_iconst (pc := 64) (v := 0) i_125_64 (by decide) ?_
          obtain rfl := Option.some.inj hF
          exact k_ireturn (pc := 65) i_125_65 rfl rfl (K _ R)
        · rw [if_neg c22] at hF
          refine k_iconst (pc := 60) (v := 1) i_125_60 (by decide) ?_
          refine k_goto (pc := 61) (tgt := 65) i_125_61 (by decide) ?_
          obtain rfl := Option.some.inj hF
          exact k_ireturn (pc := 65) i_125_65 rfl rfl (K _ R)
