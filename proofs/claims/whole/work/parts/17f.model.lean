-- 94: RDModel thrown
noncomputable def F_94 (T : kT) (M : kM) : Option (Int32 × kM) :=
  some (gp M lMo 0, M)
set_option maxHeartbeats 1000000 in
theorem D_94 {G : kG} {d : Nat} {A : kLb → Nat} {T : kT} {M : kM} {h : kH} {z : (Int32 × kM)} (R : kRl A T M h) (hF : F_94 T  M = some z) : kRun G (d + 1) 94 [.ref (A lMo)] h 0 0 (kPI A T z) := by
  refine ⟨⟨rfl, Nat.le_of_ble_eq_true rfl⟩, ?_⟩
  show kWP _ _ (kRun G (d + 0)) _ 0 [some (.ref (A lMo))] [] _ _ _
  have K : (fun z : (Int32 × kM) => ∀ h1, kRl A T z.2 h1 → kPI A T z (.inl (some (.int z.1))) h1) z := fun _ q => ⟨rfl, q⟩
  unfold F_94 at hF
  refine k_aload_n (pc := 0) i_94_0 rfl rfl ?_
  refine k_getf (pc := 1) i_94_1 f_7_88 (rd_Mo R) rfl ?_
  obtain rfl := Option.some.inj hF
  exact k_ireturn (pc := 4) i_94_4 rfl rfl (K _ R)
-- 95: RDModel in
noncomputable def F_95 (T : kT) (a0 : Int32) (a1 : Int32) (a2 : Int32) (M : kM) : Option (Int32 × kM) :=
  if a0 < a1 then (some (0, M)) else (if a2 < a0 then (some (0, M)) else (some (1, M)))
set_option maxHeartbeats 1000000 in
theorem D_95 {G : kG} {d : Nat} {A : kLb → Nat} {T : kT} {M : kM} {h : kH} {a0 : Int32} {a1 : Int32} {a2 : Int32} {z : (Int32 × kM)} (R : kRl A T M h) (hF : F_95 T a0 a1 a2 M = some z) : kRun G (d + 1) 95 [.int a0, .int a1, .int a2] h 0 0 (kPI A T z) := by
  refine ⟨⟨rfl, Nat.le_of_ble_eq_true rfl⟩, ?_⟩
  show kWP _ _ (kRun G (d + 0)) _ 0 [some (.int a0), some (.int a1), some (.int a2)] [] _ _ _
  have K : (fun z : (Int32 × kM) => ∀ h1, kRl A T z.2 h1 → kPI A T z (.inl (some (.int z.1))) h1) z := fun _ q => ⟨rfl, q⟩
  unfold F_95 at hF
  refine k_iload_n (pc := 0) i_95_0 rfl ?_
  refine k_iload_n (pc := 1) i_95_1 rfl ?_
  refine k_icmp_lt (pc := 2) (tgt := 14) i_95_2 (by decide) (fun c1 => ?_) (fun c1 => ?_)
  · rw [if_pos c1] at hF
    refine k_iconst (pc := 14) (v := 0) i_95_14 (by decide) ?_
    obtain rfl := Option.some.inj hF
    exact k_ireturn (pc := 15) i_95_15 rfl rfl (K _ R)
  · rw [if_neg c1] at hF
    refine k_iload_n (pc := 5) i_95_5 rfl ?_
    refine k_iload_n (pc := 6) i_95_6 rfl ?_
    refine k_icmp_gt (pc := 7) (tgt := 14) i_95_7 (by decide) (fun c2 => ?_) (fun c2 => ?_)
    · rw [if_pos c2] at hF
      refine k_iconst (pc := 14) (v := 0) i_95_14 (by decide) ?_
      obtain rfl := Option.some.inj hF
      exact k_ireturn (pc := 15) i_95_15 rfl rfl (K _ R)
    · rw [if_neg c2] at hF
      refine k_iconst (pc := 10) (v := 1) i_95_10 (by decide) ?_
      refine k_goto (pc := 11) (tgt := 15) i_95_11 (by decide) ?_
      obtain rfl := Option.some.inj hF
      exact k_ireturn (pc := 15) i_95_15 rfl rfl (K _ R)
-- 96: RDModel says
noncomputable def F_96_10 (T : kT) (a1 : Int32) (s0 : Int32) (M : kM) : Option (Int32 × kM) :=
  kGd (a1 == 0 || a1 == 1) (some (a1, sp M lMo 0 s0))
set_option maxHeartbeats 1000000 in
theorem W_96_10 {G : kG} {d : Nat} {A : kLb → Nat} {C : kCl} {P : kO → kH → Prop} {T : kT} {M : kM} {h : kH} {a1 : Int32} {s0 : Int32} {b0 : Option Value} {z : (Int32 × kM)} (hC : C = kRun G (d + 0)) (R : kRl A T M h) (K : (fun z : (Int32 × kM) => ∀ h1, kRl A T z.2 h1 → P (.inl (some (.int z.1))) h1) z) (hF : F_96_10 T a1 s0 M = some z) : kWP G 96 C P 10 [b0, some (.int a1)] [.int s0, .ref (A lMo)] h 0 0 := by
  unfold F_96_10 at hF
  refine k_putf (pc := 10) i_96_10 f_7_88 (rd_Mo R) (by decide +kernel) (Nat.le_of_ble_eq_true rfl) rfl rfl rfl (fun h e2 => ?_)
  replace R := kRl_sp (l := lMo) (k := 0) (v := s0) R rfl e2
  clear e2
  refine k_iload_n (pc := 13) i_96_13 rfl ?_
  obtain ⟨g3, hF⟩ := kGd_el hF
  obtain rfl := Option.some.inj hF
  exact k_ireturn (pc := 14) i_96_14 rfl (kz_nar g3) (K _ R)
noncomputable def F_96 (T : kT) (a1 : Int32) (M : kM) : Option (Int32 × kM) :=
  if a1 = 0 then (F_96_10 T a1 1 M) else (F_96_10 T a1 0 M)
set_option maxHeartbeats 1000000 in
theorem D_96 {G : kG} {d : Nat} {A : kLb → Nat} {T : kT} {M : kM} {h : kH} {a1 : Int32} {z : (Int32 × kM)} (R : kRl A T M h) (hF : F_96 T a1 M = some z) : kRun G (d + 1) 96 [.ref (A lMo), .int a1] h 0 0 (kPI A T z) := by
  refine ⟨⟨rfl, Nat.le_of_ble_eq_true rfl⟩, ?_⟩
  show kWP _ _ (kRun G (d + 0)) _ 0 [some (.ref (A lMo)), some (.int a1)] [] _ _ _
  have K : (fun z : (Int32 × kM) => ∀ h1, kRl A T z.2 h1 → kPI A T z (.inl (some (.int z.1))) h1) z := fun _ q => ⟨rfl, q⟩
  unfold F_96 at hF
  refine k_aload_n (pc := 0) i_96_0 rfl rfl ?_
  refine k_iload_n (pc := 1) i_96_1 rfl ?_
  refine k_if_eq (pc := 2) (tgt := 9) i_96_2 (by decide) (fun c1 => ?_) (fun c1 => ?_)
  · rw [if_pos c1] at hF
    refine k_iconst (pc := 9) (v := 1) i_96_9 (by decide) ?_
    exact W_96_10 (d := d) rfl R K hF
  · rw [if_neg c1] at hF
    refine k_iconst (pc := 5) (v := 0) i_96_5 (by decide) ?_
    refine k_goto (pc := 6) (tgt := 10) i_96_6 (by decide) ?_
    exact W_96_10 (d := d) rfl R K hF
-- 97: RDModel isTable
noncomputable def F_97 (T : kT) (a1 : Int32) (M : kM) : Option (Int32 × kM) :=
  kBd (F_95 T a1 0 ((gp M lMo 1) - 1) M) (fun r1 M2 => kGd (r1 == 0 || r1 == 1) (some (r1, M2)))
set_option maxHeartbeats 1000000 in
theorem D_97 {G : kG} {d : Nat} {A : kLb → Nat} {T : kT} {M : kM} {h : kH} {a1 : Int32} {z : (Int32 × kM)} (R : kRl A T M h) (hF : F_97 T a1 M = some z) : kRun G (d + 2) 97 [.ref (A lMo), .int a1] h 0 0 (kPI A T z) := by
  refine ⟨⟨rfl, Nat.le_of_ble_eq_true rfl⟩, ?_⟩
  show kWP _ _ (kRun G (d + 1)) _ 0 [some (.ref (A lMo)), some (.int a1)] [] _ _ _
  have K : (fun z : (Int32 × kM) => ∀ h1, kRl A T z.2 h1 → kPI A T z (.inl (some (.int z.1))) h1) z := fun _ q => ⟨rfl, q⟩
  unfold F_97 at hF
  refine k_iload_n (pc := 0) i_97_0 rfl ?_
  refine k_iconst (pc := 1) (v := 0) i_97_1 (by decide) ?_
  refine k_aload_n (pc := 2) i_97_2 rfl rfl ?_
  refine k_getf (pc := 3) i_97_3 f_7_91 (rd_Mo R) rfl ?_
  refine k_iconst (pc := 6) (v := 1) i_97_6 (by decide) ?_
  refine k_isub (pc := 7) i_97_7 ?_
  obtain ⟨r1, M2, q3, hF⟩ := kBd_el hF
  refine kcs_I (pc := 8) (As := [.int a1, .int 0, .int ((gp M lMo 1) - 1)]) (st := []) (A := A) (T := T) (r := r1) (M1 := M2) i_97_8 m_7_94 rfl rfl rfl (Nat.le_of_ble_eq_true rfl) (D_95 R q3) (fun h R => ?_)
  obtain ⟨g4, hF⟩ := kGd_el hF
  obtain rfl := Option.some.inj hF
  exact k_ireturn (pc := 11) i_97_11 rfl (kz_nar g4) (K _ R)
-- 98: RDModel isColumn
noncomputable def F_98 (T : kT) (a1 : Int32) (a2 : Int32) (M : kM) : Option (Int32 × kM) :=
  kBd (F_97 T a1 M) (fun r1 M2 => if r1 = 0 then (some (0, M2)) else (kGx a1 6 (kBd (F_95 T a2 0 ((gp M2 (lMa 2) a1.toNatClampNeg) - 1) M2) (fun r6 M7 => if r6 = 0 then (some (0, M7)) else (some (1, M7))))))
set_option maxHeartbeats 1000000 in
theorem D_98 {G : kG} {d : Nat} {A : kLb → Nat} {T : kT} {M : kM} {h : kH} {a1 : Int32} {a2 : Int32} {z : (Int32 × kM)} (R : kRl A T M h) (hF : F_98 T a1 a2 M = some z) : kRun G (d + 3) 98 [.ref (A lMo), .int a1, .int a2] h 0 0 (kPI A T z) := by
  refine ⟨⟨rfl, Nat.le_of_ble_eq_true rfl⟩, ?_⟩
  show kWP _ _ (kRun G (d + 2)) _ 0 [some (.ref (A lMo)), some (.int a1), some (.int a2)] [] _ _ _
  have K : (fun z : (Int32 × kM) => ∀ h1, kRl A T z.2 h1 → kPI A T z (.inl (some (.int z.1))) h1) z := fun _ q => ⟨rfl, q⟩
  unfold F_98 at hF
  refine k_aload_n (pc := 0) i_98_0 rfl rfl ?_
  refine k_iload_n (pc := 1) i_98_1 rfl ?_
  obtain ⟨r1, M2, q3, hF⟩ := kBd_el hF
  refine kcv_I (pc := 2) (As := [.ref (A lMo), .int a1]) (st := []) (A := A) (T := T) (r := r1) (M1 := M2) i_98_2 m_7_98 rfl rfl rfl rfl (rd_Mo R) rfl (Nat.le_of_ble_eq_true rfl) (D_97 R q3) (fun h R => ?_)
  refine k_if_eq (pc := 5) (tgt := 28) i_98_5 (by decide) (fun c4 => ?_) (fun c4 => ?_)
  · rw [if_pos c4] at hF
    refine k_iconst (pc := 28) (v := 0) i_98_28 (by decide) ?_
    obtain rfl := Option.some.inj hF
    exact k_ireturn (pc := 29) i_98_29 rfl rfl (K _ R)
  · rw [if_neg c4] at hF
    refine k_iload_n (pc := 8) i_98_8 rfl ?_
    refine k_iconst (pc := 9) (v := 0) i_98_9 (by decide) ?_
    refine k_aload_n (pc := 10) i_98_10 rfl rfl ?_
    refine k_getf (pc := 11) i_98_11 f_7_7 (rd_Mo R) rfl ?_
    refine k_iload_n (pc := 14) i_98_14 rfl ?_
    obtain ⟨g5, hF⟩ := kGx_el hF
    refine k_iald (pc := 15) i_98_15 (rd_Ma_2 R) g5 ?_
    refine k_iconst (pc := 16) (v := 1) i_98_16 (by decide) ?_
    refine k_isub (pc := 17) i_98_17 ?_
    obtain ⟨r6, M7, q8, hF⟩ := kBd_el hF
    refine kcs_I (pc := 18) (As := [.int a2, .int 0, .int ((gp M2 (lMa 2) a1.toNatClampNeg) - 1)]) (st := []) (A := A) (T := T) (r := r6) (M1 := M7) i_98_18 m_7_94 rfl rfl rfl (Nat.le_of_ble_eq_true rfl) (D_95 R q8) (fun h R => ?_)
    refine k_if_eq (pc := 21) (tgt := 28) i_98_21 (by decide) (fun c9 => ?_) (fun c9 => ?_)
    · rw [if_pos c9] at hF
      refine k_iconst (pc := 28) (v := 0) i_98_28 (by decide) ?_
      obtain rfl := Option.some.inj hF
      exact k_ireturn (pc := 29) i_98_29 rfl rfl (K _ R)
    · rw [if_neg c9] at hF
      refine k_iconst (pc := 24) (v := 1) i_98_24 (by decide) ?_
      refine k_goto (pc := 25) (tgt := 29) i_98_25 (by decide) ?_
      obtain rfl := Option.some.inj hF
      exact k_ireturn (pc := 29) i_98_29 rfl rfl (K _ R)
-- 99: RDModel at
noncomputable def F_99 (T : kT) (a0 : Int32) (a1 : Int32) (a2 : Int32) (M : kM) : Option (Int32 × kM) :=
  some ((((a0 * 40) + a1) * 6) + a2, M)
set_option maxHeartbeats 1000000 in
theorem D_99 {G : kG} {d : Nat} {A : kLb → Nat} {T : kT} {M : kM} {h : kH} {a0 : Int32} {a1 : Int32} {a2 : Int32} {z : (Int32 × kM)} (R : kRl A T M h) (hF : F_99 T a0 a1 a2 M = some z) : kRun G (d + 1) 99 [.int a0, .int a1, .int a2] h 0 0 (kPI A T z) := by
  refine ⟨⟨rfl, Nat.le_of_ble_eq_true rfl⟩, ?_⟩
  show kWP _ _ (kRun G (d + 0)) _ 0 [some (.int a0), some (.int a1), some (.int a2)] [] _ _ _
  have K : (fun z : (Int32 × kM) => ∀ h1, kRl A T z.2 h1 → kPI A T z (.inl (some (.int z.1))) h1) z := fun _ q => ⟨rfl, q⟩
  unfold F_99 at hF
  refine k_iload_n (pc := 0) i_99_0 rfl ?_
  refine k_bipush (pc := 1) (v := 40) i_99_1 (by decide) ?_
  refine k_imul (pc := 3) i_99_3 ?_
  refine k_iload_n (pc := 4) i_99_4 rfl ?_
  refine k_iadd (pc := 5) i_99_5 ?_
  refine k_bipush (pc := 6) (v := 6) i_99_6 (by decide) ?_
  refine k_imul (pc := 8) i_99_8 ?_
  refine k_iload_n (pc := 9) i_99_9 rfl ?_
  refine k_iadd (pc := 10) i_99_10 ?_
  obtain rfl := Option.some.inj hF
  exact k_ireturn (pc := 11) i_99_11 rfl rfl (K _ R)
-- 100: RDModel table
noncomputable def F_100_36 (T : kT) (a1 : Int32) (s0 : Int32) (M : kM) : Option (Int32 × kM) :=
  if (gp (sp M lMo 0 s0) lMo 0) ≤ 0 then (kGx (gp (sp M lMo 0 s0) lMo 1) 6 (some ((gp (sp (sp (sp (sp M lMo 0 s0) (lMa 2) (gp (sp M lMo 0 s0) lMo 1).toNatClampNeg a1) lMo 1 ((gp (sp (sp M lMo 0 s0) (lMa 2) (gp (sp M lMo 0 s0) lMo 1).toNatClampNeg a1) lMo 1) + 1)) lMo 15 0) lMo 1) - 1, sp (sp (sp (sp M lMo 0 s0) (lMa 2) (gp (sp M lMo 0 s0) lMo 1).toNatClampNeg a1) lMo 1 ((gp (sp (sp M lMo 0 s0) (lMa 2) (gp (sp M lMo 0 s0) lMo 1).toNatClampNeg a1) lMo 1) + 1)) lMo 15 0))) else (some (0, sp M lMo 0 s0))
set_option maxHeartbeats 1000000 in
theorem W_100_36 {G : kG} {d : Nat} {A : kLb → Nat} {C : kCl} {P : kO → kH → Prop} {T : kT} {M : kM} {h : kH} {a1 : Int32} {s0 : Int32} {z : (Int32 × kM)} (hC : C = kRun G (d + 1)) (R : kRl A T M h) (K : (fun z : (Int32 × kM) => ∀ h1, kRl A T z.2 h1 → P (.inl (some (.int z.1))) h1) z) (hF : F_100_36 T a1 s0 M = some z) : kWP G 100 C P 36 [some (.ref (A lMo)), some (.int a1)] [.int s0, .ref (A lMo)] h 0 0 := by
  unfold F_100_36 at hF
  refine k_putf (pc := 36) i_100_36 f_7_88 (rd_Mo R) (by decide +kernel) (Nat.le_of_ble_eq_true rfl) rfl rfl rfl (fun h e6 => ?_)
  replace R := kRl_sp (l := lMo) (k := 0) (v := s0) R rfl e6
  clear e6
  refine k_aload_n (pc := 39) i_100_39 rfl rfl ?_
  refine k_getf (pc := 40) i_100_40 f_7_88 (rd_Mo R) rfl ?_
  refine k_if_le (pc := 43) (tgt := 48) i_100_43 (by decide) (fun c7 => ?_) (fun c7 => ?_)
  · rw [if_pos c7] at hF
    refine k_aload_n (pc := 48) i_100_48 rfl rfl ?_
    refine k_getf (pc := 49) i_100_49 f_7_7 (rd_Mo R) rfl ?_
    refine k_aload_n (pc := 52) i_100_52 rfl rfl ?_
    refine k_getf (pc := 53) i_100_53 f_7_91 (rd_Mo R) rfl ?_
    refine k_iload_n (pc := 56) i_100_56 rfl ?_
    obtain ⟨g8, hF⟩ := kGx_el hF
    refine k_iast (pc := 57) i_100_57 (rd_Ma_2 R) g8 (fun h e9 => ?_)
    replace R := kRl_sp (l := (lMa 2)) (k := (gp (sp M lMo 0 s0) lMo 1).toNatClampNeg) (v := a1) R rfl e9
    clear e9
    refine k_aload_n (pc := 58) i_100_58 rfl rfl ?_
    refine k_dup (pc := 59) i_100_59 rfl ?_
    refine k_getf (pc := 60) i_100_60 f_7_91 (rd_Mo R) rfl ?_
    refine k_iconst (pc := 63) (v := 1) i_100_63 (by decide) ?_
    refine k_iadd (pc := 64) i_100_64 ?_
    refine k_putf (pc := 65) i_100_65 f_7_91 (rd_Mo R) (by decide +kernel) (Nat.le_of_ble_eq_true rfl) rfl rfl rfl (fun h e10 => ?_)
    replace R := kRl_sp (l := lMo) (k := 1) (v := (gp (sp (sp M lMo 0 s0) (lMa 2) (gp (sp M lMo 0 s0) lMo 1).toNatClampNeg a1) lMo 1) + 1) R rfl e10
    clear e10
    refine k_aload_n (pc := 68) i_100_68 rfl rfl ?_
    refine k_iconst (pc := 69) (v := 0) i_100_69 (by decide) ?_
    refine k_putf (pc := 70) i_100_70 f_7_106 (rd_Mo R) (by decide +kernel) (Nat.le_of_ble_eq_true rfl) rfl rfl rfl (fun h e11 => ?_)
    replace R := kRl_sp (l := lMo) (k := 15) (v := 0) R rfl e11
    clear e11
    refine k_aload_n (pc := 73) i_100_73 rfl rfl ?_
    refine k_getf (pc := 74) i_100_74 f_7_91 (rd_Mo R) rfl ?_
    refine k_iconst (pc := 77) (v := 1) i_100_77 (by decide) ?_
    refine k_isub (pc := 78) i_100_78 ?_
    obtain rfl := Option.some.inj hF
    exact k_ireturn (pc := 79) i_100_79 rfl rfl (K _ R)
  · rw [if_neg c7] at hF
    refine k_iconst (pc := 46) (v := 0) i_100_46 (by decide) ?_
    obtain rfl := Option.some.inj hF
    exact k_ireturn (pc := 47) i_100_47 rfl rfl (K _ R)
noncomputable def F_100 (T : kT) (a1 : Int32) (M : kM) : Option (Int32 × kM) :=
  kBd (F_95 T a1 1 6 M) (fun r1 M2 => if r1 = 0 then (F_100_36 T a1 1 M2) else (if (gp M2 lMo 1) = 6 then (F_100_36 T a1 2 M2) else (if (gp M2 lMo 7) = 0 then (F_100_36 T a1 0 M2) else (F_100_36 T a1 2 M2))))
set_option maxHeartbeats 1000000 in
theorem D_100 {G : kG} {d : Nat} {A : kLb → Nat} {T : kT} {M : kM} {h : kH} {a1 : Int32} {z : (Int32 × kM)} (R : kRl A T M h) (hF : F_100 T a1 M = some z) : kRun G (d + 2) 100 [.ref (A lMo), .int a1] h 0 0 (kPI A T z) := by
  refine ⟨⟨rfl, Nat.le_of_ble_eq_true rfl⟩, ?_⟩
  show kWP _ _ (kRun G (d + 1)) _ 0 [some (.ref (A lMo)), some (.int a1)] [] _ _ _
  have K : (fun z : (Int32 × kM) => ∀ h1, kRl A T z.2 h1 → kPI A T z (.inl (some (.int z.1))) h1) z := fun _ q => ⟨rfl, q⟩
  unfold F_100 at hF
  refine k_aload_n (pc := 0) i_100_0 rfl rfl ?_
  refine k_iload_n (pc := 1) i_100_1 rfl ?_
  refine k_iconst (pc := 2) (v := 1) i_100_2 (by decide) ?_
  refine k_bipush (pc := 3) (v := 6) i_100_3 (by decide) ?_
  obtain ⟨r1, M2, q3, hF⟩ := kBd_el hF
  refine kcs_I (pc := 5) (As := [.int a1, .int 1, .int 6]) (st := [.ref (A lMo)]) (A := A) (T := T) (r := r1) (M1 := M2) i_100_5 m_7_94 rfl rfl rfl (Nat.le_of_ble_eq_true rfl) (D_95 R q3) (fun h R => ?_)
  refine k_if_ne (pc := 8) (tgt := 15) i_100_8 (by decide) (fun c4 => ?_) (fun c4 => ?_)
  · rw [if_neg c4] at hF
    refine k_aload_n (pc := 15) i_100_15 rfl rfl ?_
    refine k_getf (pc := 16) i_100_16 f_7_91 (rd_Mo R) rfl ?_
    refine k_bipush (pc := 19) (v := 6) i_100_19 (by decide) ?_
    refine k_icmp_eq (pc := 21) (tgt := 31) i_100_21 (by decide) (fun c5 => ?_) (fun c5 => ?_)
    · rw [if_pos c5] at hF
      refine k_iconst (pc := 31) (v := 2) i_100_31 (by decide) ?_
      refine k_goto (pc := 32) (tgt := 36) i_100_32 (by decide) ?_
      exact W_100_36 (d := d) rfl R K hF
    · rw [if_neg c5] at hF
      refine k_aload_n (pc := 24) i_100_24 rfl rfl ?_
      refine k_getf (pc := 25) i_100_25 f_7_102 (rd_Mo R) rfl ?_
      refine k_if_eq (pc := 28) (tgt := 35) i_100_28 (by decide) (fun c6 => ?_) (fun c6 => ?_)
      · rw [if_pos c6] at hF
        refine k_iconst (pc := 35) (v := 0) i_100_35 (by decide) ?_
        exact W_100_36 (d := d) rfl R K hF
      · rw [if_neg c6] at hF
        refine k_iconst (pc := 31) (v := 2) i_100_31 (by decide) ?_
        refine k_goto (pc := 32) (tgt := 36) i_100_32 (by decide) ?_
        exact W_100_36 (d := d) rfl R K hF
  · rw [if_pos c4] at hF
    refine k_iconst (pc := 11) (v := 1) i_100_11 (by decide) ?_
    refine k_goto (pc := 12) (tgt := 36) i_100_12 (by decide) ?_
    exact W_100_36 (d := d) rfl R K hF
-- 101: RDModel index
noncomputable def F_101_40 (T : kT) (a1 : Int32) (a2 : Int32) (s0 : Int32) (M : kM) : Option (Unit × kM) :=
  if (gp (sp M lMo 0 s0) lMo 0) ≤ 0 then (kGx ((a1 * 6) + a2) 36 (some ((), sp (sp (sp M lMo 0 s0) (lMa 3) ((a1 * 6) + a2).toNatClampNeg 1) lMo 15 0))) else (some ((), sp M lMo 0 s0))
set_option maxHeartbeats 1000000 in
theorem W_101_40 {G : kG} {d : Nat} {A : kLb → Nat} {C : kCl} {P : kO → kH → Prop} {T : kT} {M : kM} {h : kH} {a1 : Int32} {a2 : Int32} {s0 : Int32} {z : (Unit × kM)} (hC : C = kRun G (d + 3)) (R : kRl A T M h) (K : (fun z : (Unit × kM) => ∀ h1, kRl A T z.2 h1 → P (.inl none) h1) z) (hF : F_101_40 T a1 a2 s0 M = some z) : kWP G 101 C P 40 [some (.ref (A lMo)), some (.int a1), some (.int a2)] [.int s0, .ref (A lMo)] h 0 0 := by
  unfold F_101_40 at hF
  refine k_putf (pc := 40) i_101_40 f_7_88 (rd_Mo R) (by decide +kernel) (Nat.le_of_ble_eq_true rfl) rfl rfl rfl (fun h e6 => ?_)
  replace R := kRl_sp (l := lMo) (k := 0) (v := s0) R rfl e6
  clear e6
  refine k_aload_n (pc := 43) i_101_43 rfl rfl ?_
  refine k_getf (pc := 44) i_101_44 f_7_88 (rd_Mo R) rfl ?_
  refine k_if_le (pc := 47) (tgt := 51) i_101_47 (by decide) (fun c7 => ?_) (fun c7 => ?_)
  · rw [if_pos c7] at hF
    refine k_aload_n (pc := 51) i_101_51 rfl rfl ?_
    refine k_getf (pc := 52) i_101_52 f_7_13 (rd_Mo R) rfl ?_
    refine k_iload_n (pc := 55) i_101_55 rfl ?_
    refine k_bipush (pc := 56) (v := 6) i_101_56 (by decide) ?_
    refine k_imul (pc := 58) i_101_58 ?_
    refine k_iload_n (pc := 59) i_101_59 rfl ?_
    refine k_iadd (pc := 60) i_101_60 ?_
    refine k_iconst (pc := 61) (v := 1) i_101_61 (by decide) ?_
    obtain ⟨g8, hF⟩ := kGx_el hF
    refine k_zast (pc := 62) i_101_62 (rd_Ma_3 R) g8 (fun h e9 => ?_)
    replace R := kRl_sp (l := (lMa 3)) (k := ((a1 * 6) + a2).toNatClampNeg) (v := 1) R rfl e9
    clear e9
    refine k_aload_n (pc := 63) i_101_63 rfl rfl ?_
    refine k_iconst (pc := 64) (v := 0) i_101_64 (by decide) ?_
    refine k_putf (pc := 65) i_101_65 f_7_106 (rd_Mo R) (by decide +kernel) (Nat.le_of_ble_eq_true rfl) rfl rfl rfl (fun h e10 => ?_)
    replace R := kRl_sp (l := lMo) (k := 15) (v := 0) R rfl e10
    clear e10
    obtain rfl := Option.some.inj hF
    exact k_return (pc := 68) i_101_68 rfl (K _ R)
  · rw [if_neg c7] at hF
    obtain rfl := Option.some.inj hF
    exact k_return (pc := 50) i_101_50 rfl (K _ R)
noncomputable def F_101 (T : kT) (a1 : Int32) (a2 : Int32) (M : kM) : Option (Unit × kM) :=
  kBd (F_98 T a1 a2 M) (fun r1 M2 => if r1 = 0 then (F_101_40 T a1 a2 1 M2) else (if (gp M2 lMo 7) = 0 then (kGx ((a1 * 6) + a2) 36 (if (gp M2 (lMa 3) ((a1 * 6) + a2).toNatClampNeg) = 0 then (F_101_40 T a1 a2 0 M2) else (F_101_40 T a1 a2 2 M2))) else (F_101_40 T a1 a2 2 M2)))
set_option maxHeartbeats 1000000 in
theorem D_101 {G : kG} {d : Nat} {A : kLb → Nat} {T : kT} {M : kM} {h : kH} {a1 : Int32} {a2 : Int32} {z : (Unit × kM)} (R : kRl A T M h) (hF : F_101 T a1 a2 M = some z) : kRun G (d + 4) 101 [.ref (A lMo), .int a1, .int a2] h 0 0 (kPV A T z) := by
  refine ⟨⟨rfl, Nat.le_of_ble_eq_true rfl⟩, ?_⟩
  show kWP _ _ (kRun G (d + 3)) _ 0 [some (.ref (A lMo)), some (.int a1), some (.int a2)] [] _ _ _
  have K : (fun z : (Unit × kM) => ∀ h1, kRl A T z.2 h1 → kPV A T z (.inl none) h1) z := fun _ q => ⟨rfl, q⟩
  unfold F_101 at hF
  refine k_aload_n (pc := 0) i_101_0 rfl rfl ?_
  refine k_aload_n (pc := 1) i_101_1 rfl rfl ?_
  refine k_iload_n (pc := 2) i_101_2 rfl ?_
  refine k_iload_n (pc := 3) i_101_3 rfl ?_
  obtain ⟨r1, M2, q3, hF⟩ := kBd_el hF
  refine kcv_I (pc := 4) (As := [.ref (A lMo), .int a1, .int a2]) (st := [.ref (A lMo)]) (A := A) (T := T) (r := r1) (M1 := M2) i_101_4 m_7_109 rfl rfl rfl rfl (rd_Mo R) rfl (Nat.le_of_ble_eq_true rfl) (D_98 R q3) (fun h R => ?_)
  refine k_if_ne (pc := 7) (tgt := 14) i_101_7 (by decide) (fun c4 => ?_) (fun c4 => ?_)
  · rw [if_neg c4] at hF
    refine k_aload_n (pc := 14) i_101_14 rfl rfl ?_
    refine k_getf (pc := 15) i_101_15 f_7_102 (rd_Mo R) rfl ?_
    refine k_if_ne (pc := 18) (tgt := 35) i_101_18 (by decide) (fun c5 => ?_) (fun c5 => ?_)
    · rw [if_neg c5] at hF
      refine k_iconst (pc := 35) (v := 2) i_101_35 (by decide) ?_
      refine k_goto (pc := 36) (tgt := 40) i_101_36 (by decide) ?_
      exact W_101_40 (d := d) rfl R K hF
    · rw [if_pos c5] at hF
      refine k_aload_n (pc := 21) i_101_21 rfl rfl ?_
      refine k_getf (pc := 22) i_101_22 f_7_13 (rd_Mo R) rfl ?_
      refine k_iload_n (pc := 25) i_101_25 rfl ?_
      refine k_bipush (pc := 26) (v := 6) i_101_26 (by decide) ?_
      refine k_imul (pc := 28) i_101_28 ?_
      refine k_iload_n (pc := 29) i_101_29 rfl ?_
      refine k_iadd (pc := 30) i_101_30 ?_
      obtain ⟨g6, hF⟩ := kGx_el hF
      refine k_zald (pc := 31) i_101_31 (rd_Ma_3 R) g6 ?_
      refine k_if_eq (pc := 32) (tgt := 39) i_101_32 (by decide) (fun c7 => ?_) (fun c7 => ?_)
      · rw [if_pos c7] at hF
        refine k_iconst (pc := 39) (v := 0) i_101_39 (by decide) ?_
        exact W_101_40 (d := d) rfl R K hF
      · rw [if_neg c7] at hF
        refine k_iconst (pc := 35) (v := 2) i_101_35 (by decide) ?_
        refine k_goto (pc := 36) (tgt := 40) i_101_36 (by decide) ?_
        exact W_101_40 (d := d) rfl R K hF
  · rw [if_pos c4] at hF
    refine k_iconst (pc := 10) (v := 1) i_101_10 (by decide) ?_
    refine k_goto (pc := 11) (tgt := 40) i_101_11 (by decide) ?_
    exact W_101_40 (d := d) rfl R K hF
-- 102: RDModel stage
noncomputable def F_102 (T : kT) (a1 : Int32) (a2 : Int32) (M : kM) : Option (Unit × kM) :=
  kBd (F_95 T a1 0 5 M) (fun r1 M2 => kBd (F_96 T r1 M2) (fun r4 M5 => if r4 = 0 then (some ((), M5)) else (kGx a1 6 (some ((), sp M5 (lMa 6) a1.toNatClampNeg a2)))))
set_option maxHeartbeats 1000000 in
theorem D_102 {G : kG} {d : Nat} {A : kLb → Nat} {T : kT} {M : kM} {h : kH} {a1 : Int32} {a2 : Int32} {z : (Unit × kM)} (R : kRl A T M h) (hF : F_102 T a1 a2 M = some z) : kRun G (d + 2) 102 [.ref (A lMo), .int a1, .int a2] h 0 0 (kPV A T z) := by
  refine ⟨⟨rfl, Nat.le_of_ble_eq_true rfl⟩, ?_⟩
  show kWP _ _ (kRun G (d + 1)) _ 0 [some (.ref (A lMo)), some (.int a1), some (.int a2)] [] _ _ _
  have K : (fun z : (Unit × kM) => ∀ h1, kRl A T z.2 h1 → kPV A T z (.inl none) h1) z := fun _ q => ⟨rfl, q⟩
  unfold F_102 at hF
  refine k_aload_n (pc := 0) i_102_0 rfl rfl ?_
  refine k_iload_n (pc := 1) i_102_1 rfl ?_
  refine k_iconst (pc := 2) (v := 0) i_102_2 (by decide) ?_
  refine k_iconst (pc := 3) (v := 5) i_102_3 (by decide) ?_
  obtain ⟨r1, M2, q3, hF⟩ := kBd_el hF
  refine kcs_I (pc := 4) (As := [.int a1, .int 0, .int 5]) (st := [.ref (A lMo)]) (A := A) (T := T) (r := r1) (M1 := M2) i_102_4 m_7_94 rfl rfl rfl (Nat.le_of_ble_eq_true rfl) (D_95 R q3) (fun h R => ?_)
  obtain ⟨r4, M5, q6, hF⟩ := kBd_el hF
  refine kcv_I (pc := 7) (As := [.ref (A lMo), .int r1]) (st := []) (A := A) (T := T) (r := r4) (M1 := M5) i_102_7 m_7_113 rfl rfl rfl rfl (rd_Mo R) rfl (Nat.le_of_ble_eq_true rfl) (D_96 R q6) (fun h R => ?_)
  refine k_if_eq (pc := 10) (tgt := 20) i_102_10 (by decide) (fun c7 => ?_) (fun c7 => ?_)
  · rw [if_pos c7] at hF
    obtain rfl := Option.some.inj hF
    exact k_return (pc := 20) i_102_20 rfl (K _ R)
  · rw [if_neg c7] at hF
    refine k_aload_n (pc := 13) i_102_13 rfl rfl ?_
    refine k_getf (pc := 14) i_102_14 f_7_23 (rd_Mo R) rfl ?_
    refine k_iload_n (pc := 17) i_102_17 rfl ?_
    refine k_iload_n (pc := 18) i_102_18 rfl ?_
    obtain ⟨g8, hF⟩ := kGx_el hF
    refine k_iast (pc := 19) i_102_19 (rd_Ma_6 R) g8 (fun h e9 => ?_)
    replace R := kRl_sp (l := (lMa 6)) (k := a1.toNatClampNeg) (v := a2) R rfl e9
    clear e9
    obtain rfl := Option.some.inj hF
    exact k_return (pc := 20) i_102_20 rfl (K _ R)
-- 103: RDModel insert
noncomputable def B_103_59 (T : kT) (a1 : Int32) (a2 : Int32) (M : kM) : Option ((Int32 × kM) ⊕ (Int32 × kM)) :=
  if 6 ≤ a2 then (kGx a1 6 (kGx a1 6 (kGx a1 6 (some (.inr ((gp (sp (sp (sp M (lMa 4) a1.toNatClampNeg ((gp M (lMa 4) a1.toNatClampNeg) + 1)) lMo 8 ((gp (sp M (lMa 4) a1.toNatClampNeg ((gp M (lMa 4) a1.toNatClampNeg) + 1)) lMo 8) + 1)) lMo 15 0) (lMa 4) a1.toNatClampNeg, sp (sp (sp M (lMa 4) a1.toNatClampNeg ((gp M (lMa 4) a1.toNatClampNeg) + 1)) lMo 8 ((gp (sp M (lMa 4) a1.toNatClampNeg ((gp M (lMa 4) a1.toNatClampNeg) + 1)) lMo 8) + 1)) lMo 15 0))))))) else (kGx a1 6 (kBd (F_99 T a1 (gp M (lMa 4) a1.toNatClampNeg) a2 M) (fun r17 M18 => kGx a2 6 (kGx r17 1440 (some (.inl ((a2 + 1), sp M18 (lMa 5) r17.toNatClampNeg (gp M18 (lMa 6) a2.toNatClampNeg))))))))
noncomputable def F_103_59 (T : kT) (a1 : Int32) (a2 : Int32) (M : kM) : Option (Int32 × kM) :=
  kWh (fun w : (Int32 × kM) => B_103_59 T a1 w.1 w.2) (a2, M)
theorem F_103_59_eq (T : kT) (a1 : Int32) (a2 : Int32) (M : kM) : F_103_59 T a1 a2 M = kAg (B_103_59 T a1 a2 M) (fun w => F_103_59 T a1 w.1 w.2) := by
  unfold F_103_59
  rw [kWh_eq]
set_option maxHeartbeats 1000000 in
theorem W_103_59 {G : kG} {d : Nat} {A : kLb → Nat} {C : kCl} {P : kO → kH → Prop} {T : kT} {M : kM} {h : kH} {a1 : Int32} {a2 : Int32} {z : (Int32 × kM)} (hC : C = kRun G (d + 2)) (R : kRl A T M h) (K : (fun z : (Int32 × kM) => ∀ h1, kRl A T z.2 h1 → P (.inl (some (.int z.1))) h1) z) (hF : F_103_59 T a1 a2 M = some z) : kWP G 103 C P 59 [some (.ref (A lMo)), some (.int a1), some (.int a2)] [] h 0 0 := by
  refine kWh_ind (P := (fun w : (Int32 × kM) => ∀ (h : kH), kRl A T w.2 h → kWP G 103 C P 59 [some (.ref (A lMo)), some (.int a1), some (.int w.1)] [] h 0 0)) (Q := (fun z : (Int32 × kM) => ∀ h1, kRl A T z.2 h1 → P (.inl (some (.int z.1))) h1)) hF K ?_ h R
  clear hF K R
  intro w z hF K h R
  obtain ⟨a2, M⟩ := w
  change B_103_59 T a1 a2 M = some z at hF
  change kWP G 103 C P 59 [some (.ref (A lMo)), some (.int a1), some (.int a2)] [] h 0 0
  unfold B_103_59 at hF
  refine k_iload_n (pc := 59) i_103_59 rfl ?_
  refine k_bipush (pc := 60) (v := 6) i_103_60 (by decide) ?_
  refine k_icmp_ge (pc := 62) (tgt := 93) i_103_62 (by decide) (fun c9 => ?_) (fun c9 => ?_)
  · rw [if_pos c9] at hF
    refine k_aload_n (pc := 93) i_103_93 rfl rfl ?_
    refine k_getf (pc := 94) i_103_94 f_7_17 (rd_Mo R) rfl ?_
    refine k_iload_n (pc := 97) i_103_97 rfl ?_
    refine k_dup2 (pc := 98) i_103_98 rfl rfl ?_
    obtain ⟨g10, hF⟩ := kGx_el hF
    refine k_iald (pc := 99) i_103_99 (rd_Ma_4 R) g10 ?_
    refine k_iconst (pc := 100) (v := 1) i_103_100 (by decide) ?_
    refine k_iadd (pc := 101) i_103_101 ?_
    obtain ⟨g11, hF⟩ := kGx_el hF
    refine k_iast (pc := 102) i_103_102 (rd_Ma_4 R) g11 (fun h e12 => ?_)
    replace R := kRl_sp (l := (lMa 4)) (k := a1.toNatClampNeg) (v := (gp M (lMa 4) a1.toNatClampNeg) + 1) R rfl e12
    clear e12
    refine k_aload_n (pc := 103) i_103_103 rfl rfl ?_
    refine k_dup (pc := 104) i_103_104 rfl ?_
    refine k_getf (pc := 105) i_103_105 f_7_117 (rd_Mo R) rfl ?_
    refine k_iconst (pc := 108) (v := 1) i_103_108 (by decide) ?_
    refine k_iadd (pc := 109) i_103_109 ?_
    refine k_putf (pc := 110) i_103_110 f_7_117 (rd_Mo R) (by decide +kernel) (Nat.le_of_ble_eq_true rfl) rfl rfl rfl (fun h e13 => ?_)
    replace R := kRl_sp (l := lMo) (k := 8) (v := (gp (sp M (lMa 4) a1.toNatClampNeg ((gp M (lMa 4) a1.toNatClampNeg) + 1)) lMo 8) + 1) R rfl e13
    clear e13
    refine k_aload_n (pc := 113) i_103_113 rfl rfl ?_
    refine k_iconst (pc := 114) (v := 0) i_103_114 (by decide) ?_
    refine k_putf (pc := 115) i_103_115 f_7_106 (rd_Mo R) (by decide +kernel) (Nat.le_of_ble_eq_true rfl) rfl rfl rfl (fun h e14 => ?_)
    replace R := kRl_sp (l := lMo) (k := 15) (v := 0) R rfl e14
    clear e14
    refine k_aload_n (pc := 118) i_103_118 rfl rfl ?_
    refine k_getf (pc := 119) i_103_119 f_7_17 (rd_Mo R) rfl ?_
    refine k_iload_n (pc := 122) i_103_122 rfl ?_
    obtain ⟨g15, hF⟩ := kGx_el hF
    refine k_iald (pc := 123) i_103_123 (rd_Ma_4 R) g15 ?_
    obtain rfl := Option.some.inj hF
    exact k_ireturn (pc := 124) i_103_124 rfl rfl (K _ R)
  · rw [if_neg c9] at hF
    refine k_aload_n (pc := 65) i_103_65 rfl rfl ?_
    refine k_getf (pc := 66) i_103_66 f_7_20 (rd_Mo R) rfl ?_
    refine k_iload_n (pc := 69) i_103_69 rfl ?_
    refine k_aload_n (pc := 70) i_103_70 rfl rfl ?_
    refine k_getf (pc := 71) i_103_71 f_7_17 (rd_Mo R) rfl ?_
    refine k_iload_n (pc := 74) i_103_74 rfl ?_
    obtain ⟨g16, hF⟩ := kGx_el hF
    refine k_iald (pc := 75) i_103_75 (rd_Ma_4 R) g16 ?_
    refine k_iload_n (pc := 76) i_103_76 rfl ?_
    obtain ⟨r17, M18, q19, hF⟩ := kBd_el hF
    refine kcs_I (pc := 77) (As := [.int a1, .int (gp M (lMa 4) a1.toNatClampNeg), .int a2]) (st := [.ref (A (lMa 5))]) (A := A) (T := T) (r := r17) (M1 := M18) i_103_77 m_7_120 rfl rfl rfl (Nat.le_of_ble_eq_true rfl) (hC ▸ D_99 R q19) (fun h R => ?_)
    refine k_aload_n (pc := 80) i_103_80 rfl rfl ?_
    refine k_getf (pc := 81) i_103_81 f_7_23 (rd_Mo R) rfl ?_
    refine k_iload_n (pc := 84) i_103_84 rfl ?_
    obtain ⟨g20, hF⟩ := kGx_el hF
    refine k_iald (pc := 85) i_103_85 (rd_Ma_6 R) g20 ?_
    obtain ⟨g21, hF⟩ := kGx_el hF
    refine k_iast (pc := 86) i_103_86 (rd_Ma_5 R) g21 (fun h e22 => ?_)
    replace R := kRl_sp (l := (lMa 5)) (k := r17.toNatClampNeg) (v := gp M18 (lMa 6) a2.toNatClampNeg) R rfl e22
    clear e22
    refine k_iinc (pc := 87) (v := a2 + 1) (lo2 := [some (.ref (A lMo)), some (.int a1), some (.int (a2 + 1))]) i_103_87 rfl rfl rfl ?_
    refine k_goto (pc := 90) (tgt := 59) i_103_90 (by decide) ?_
    obtain rfl := Option.some.inj hF
    exact K _ R
noncomputable def F_103_45 (T : kT) (a1 : Int32) (s0 : Int32) (M : kM) : Option (Int32 × kM) :=
  if (gp (sp M lMo 0 s0) lMo 0) ≤ 0 then (F_103_59 T a1 0 (sp M lMo 0 s0)) else (some (0, sp M lMo 0 s0))
set_option maxHeartbeats 1000000 in
theorem W_103_45 {G : kG} {d : Nat} {A : kLb → Nat} {C : kCl} {P : kO → kH → Prop} {T : kT} {M : kM} {h : kH} {a1 : Int32} {s0 : Int32} {b2 : Option Value} {z : (Int32 × kM)} (hC : C = kRun G (d + 2)) (R : kRl A T M h) (K : (fun z : (Int32 × kM) => ∀ h1, kRl A T z.2 h1 → P (.inl (some (.int z.1))) h1) z) (hF : F_103_45 T a1 s0 M = some z) : kWP G 103 C P 45 [some (.ref (A lMo)), some (.int a1), b2] [.int s0, .ref (A lMo)] h 0 0 := by
  unfold F_103_45 at hF
  refine k_putf (pc := 45) i_103_45 f_7_88 (rd_Mo R) (by decide +kernel) (Nat.le_of_ble_eq_true rfl) rfl rfl rfl (fun h e7 => ?_)
  replace R := kRl_sp (l := lMo) (k := 0) (v := s0) R rfl e7
  clear e7
  refine k_aload_n (pc := 48) i_103_48 rfl rfl ?_
  refine k_getf (pc := 49) i_103_49 f_7_88 (rd_Mo R) rfl ?_
  refine k_if_le (pc := 52) (tgt := 57) i_103_52 (by decide) (fun c8 => ?_) (fun c8 => ?_)
  · rw [if_pos c8] at hF
    refine k_iconst (pc := 57) (v := 0) i_103_57 (by decide) ?_
    refine k_istore_n (pc := 58) (lo2 := [some (.ref (A lMo)), some (.int a1), some (.int 0)]) i_103_58 (Nat.le_of_ble_eq_true rfl) rfl ?_
    exact W_103_59 (d := d) hC R K hF
  · rw [if_neg c8] at hF
    refine k_iconst (pc := 55) (v := 0) i_103_55 (by decide) ?_
    obtain rfl := Option.some.inj hF
    exact k_ireturn (pc := 56) i_103_56 rfl rfl (K _ R)
noncomputable def F_103 (T : kT) (a1 : Int32) (M : kM) : Option (Int32 × kM) :=
  kBd (F_97 T a1 M) (fun r1 M2 => if r1 = 0 then (F_103_45 T a1 1 M2) else (kGx a1 6 (if (gp M2 (lMa 4) a1.toNatClampNeg) = 40 then (F_103_45 T a1 2 M2) else (if (gp M2 lMo 7) = 0 then (F_103_45 T a1 0 M2) else (if (gp M2 lMo 8) = 120 then (F_103_45 T a1 2 M2) else (F_103_45 T a1 0 M2))))))
set_option maxHeartbeats 1000000 in
theorem D_103 {G : kG} {d : Nat} {A : kLb → Nat} {T : kT} {M : kM} {h : kH} {a1 : Int32} {z : (Int32 × kM)} (R : kRl A T M h) (hF : F_103 T a1 M = some z) : kRun G (d + 3) 103 [.ref (A lMo), .int a1] h 0 0 (kPI A T z) := by
  refine ⟨⟨rfl, Nat.le_of_ble_eq_true rfl⟩, ?_⟩
  show kWP _ _ (kRun G (d + 2)) _ 0 [some (.ref (A lMo)), some (.int a1), none] [] _ _ _
  have K : (fun z : (Int32 × kM) => ∀ h1, kRl A T z.2 h1 → kPI A T z (.inl (some (.int z.1))) h1) z := fun _ q => ⟨rfl, q⟩
  unfold F_103 at hF
  refine k_aload_n (pc := 0) i_103_0 rfl rfl ?_
  refine k_aload_n (pc := 1) i_103_1 rfl rfl ?_
  refine k_iload_n (pc := 2) i_103_2 rfl ?_
  obtain ⟨r1, M2, q3, hF⟩ := kBd_el hF
  refine kcv_I (pc := 3) (As := [.ref (A lMo), .int a1]) (st := [.ref (A lMo)]) (A := A) (T := T) (r := r1) (M1 := M2) i_103_3 m_7_98 rfl rfl rfl rfl (rd_Mo R) rfl (Nat.le_of_ble_eq_true rfl) (D_97 R q3) (fun h R => ?_)
  refine k_if_ne (pc := 6) (tgt := 13) i_103_6 (by decide) (fun c4 => ?_) (fun c4 => ?_)
  · rw [if_neg c4] at hF
    refine k_aload_n (pc := 13) i_103_13 rfl rfl ?_
    refine k_getf (pc := 14) i_103_14 f_7_17 (rd_Mo R) rfl ?_
    refine k_iload_n (pc := 17) i_103_17 rfl ?_
    obtain ⟨g5, hF⟩ := kGx_el hF
    refine k_iald (pc := 18) i_103_18 (rd_Ma_4 R) g5 ?_
    refine k_bipush (pc := 19) (v := 40) i_103_19 (by decide) ?_
    refine k_icmp_eq (pc := 21) (tgt := 40) i_103_21 (by decide) (fun c6 => ?_) (fun c6 => ?_)
    · rw [if_pos c6] at hF
      refine k_iconst (pc := 40) (v := 2) i_103_40 (by decide) ?_
      refine k_goto (pc := 41) (tgt := 45) i_103_41 (by decide) ?_
      exact W_103_45 (d := d) rfl R K hF
    · rw [if_neg c6] at hF
      refine k_aload_n (pc := 24) i_103_24 rfl rfl ?_
      refine k_getf (pc := 25) i_103_25 f_7_102 (rd_Mo R) rfl ?_
      refine k_if_eq (pc := 28) (tgt := 44) i_103_28 (by decide) (fun c7 => ?_) (fun c7 => ?_)
      · rw [if_pos c7] at hF
        refine k_iconst (pc := 44) (v := 0) i_103_44 (by decide) ?_
        exact W_103_45 (d := d) rfl R K hF
      · rw [if_neg c7] at hF
        refine k_aload_n (pc := 31) i_103_31 rfl rfl ?_
        refine k_getf (pc := 32) i_103_32 f_7_117 (rd_Mo R) rfl ?_
        refine k_bipush (pc := 35) (v := 120) i_103_35 (by decide) ?_
        refine k_icmp_ne (pc := 37) (tgt := 44) i_103_37 (by decide) (fun c8 => ?_) (fun c8 => ?_)
        · rw [if_neg c8] at hF
          refine k_iconst (pc := 44) (v := 0) i_103_44 (by decide) ?_
          exact W_103_45 (d := d) rfl R K hF
        · rw [if_pos c8] at hF
          refine k_iconst (pc := 40) (v := 2) i_103_40 (by decide) ?_
          refine k_goto (pc := 41) (tgt := 45) i_103_41 (by decide) ?_
          exact W_103_45 (d := d) rfl R K hF
  · rw [if_pos c4] at hF
    refine k_iconst (pc := 9) (v := 1) i_103_9 (by decide) ?_
    refine k_goto (pc := 10) (tgt := 45) i_103_10 (by decide) ?_
    exact W_103_45 (d := d) rfl R K hF
-- 104: RDModel matching
noncomputable def B_104_6 (T : kT) (a1 : Int32) (a2 : Int32) (a3 : Int32) (a4 : Int32) (a5 : Int32) (M : kM) : Option ((Int32 × Int32 × kM) ⊕ (Int32 × kM)) :=
  kGx a1 6 (if (gp M (lMa 4) a1.toNatClampNeg) ≤ a5 then (some (.inr ((a4, M)))) else (kBd (F_99 T a1 a5 a2 M) (fun r3 M4 => kGx r3 1440 (if (gp M4 (lMa 5) r3.toNatClampNeg) = a3 then (some (.inl ((a4 + 1), (a5 + 1), M4))) else (some (.inl (a4, (a5 + 1), M4)))))))
noncomputable def F_104_6 (T : kT) (a1 : Int32) (a2 : Int32) (a3 : Int32) (a4 : Int32) (a5 : Int32) (M : kM) : Option (Int32 × kM) :=
  kWh (fun w : (Int32 × Int32 × kM) => B_104_6 T a1 a2 a3 w.1 w.2.1 w.2.2) (a4, a5, M)
theorem F_104_6_eq (T : kT) (a1 : Int32) (a2 : Int32) (a3 : Int32) (a4 : Int32) (a5 : Int32) (M : kM) : F_104_6 T a1 a2 a3 a4 a5 M = kAg (B_104_6 T a1 a2 a3 a4 a5 M) (fun w => F_104_6 T a1 a2 a3 w.1 w.2.1 w.2.2) := by
  unfold F_104_6
  rw [kWh_eq]
set_option maxHeartbeats 1000000 in
theorem W_104_6 {G : kG} {d : Nat} {A : kLb → Nat} {C : kCl} {P : kO → kH → Prop} {T : kT} {M : kM} {h : kH} {a1 : Int32} {a2 : Int32} {a3 : Int32} {a4 : Int32} {a5 : Int32} {z : (Int32 × kM)} (hC : C = kRun G (d + 1)) (R : kRl A T M h) (K : (fun z : (Int32 × kM) => ∀ h1, kRl A T z.2 h1 → P (.inl (some (.int z.1))) h1) z) (hF : F_104_6 T a1 a2 a3 a4 a5 M = some z) : kWP G 104 C P 6 [some (.ref (A lMo)), some (.int a1), some (.int a2), some (.int a3), some (.int a4), some (.int a5)] [] h 0 0 := by
  refine kWh_ind (P := (fun w : (Int32 × Int32 × kM) => ∀ (h : kH), kRl A T w.2.2 h → kWP G 104 C P 6 [some (.ref (A lMo)), some (.int a1), some (.int a2), some (.int a3), some (.int w.1), some (.int w.2.1)] [] h 0 0)) (Q := (fun z : (Int32 × kM) => ∀ h1, kRl A T z.2 h1 → P (.inl (some (.int z.1))) h1)) hF K ?_ h R
  clear hF K R
  intro w z hF K h R
  obtain ⟨a4, a5, M⟩ := w
  change B_104_6 T a1 a2 a3 a4 a5 M = some z at hF
  change kWP G 104 C P 6 [some (.ref (A lMo)), some (.int a1), some (.int a2), some (.int a3), some (.int a4), some (.int a5)] [] h 0 0
  unfold B_104_6 at hF
  refine k_iload (pc := 6) i_104_6 rfl ?_
  refine k_aload_n (pc := 8) i_104_8 rfl rfl ?_
  refine k_getf (pc := 9) i_104_9 f_7_17 (rd_Mo R) rfl ?_
  refine k_iload_n (pc := 12) i_104_12 rfl ?_
  obtain ⟨g1, hF⟩ := kGx_el hF
  refine k_iald (pc := 13) i_104_13 (rd_Ma_4 R) g1 ?_
  refine k_icmp_ge (pc := 14) (tgt := 42) i_104_14 (by decide) (fun c2 => ?_) (fun c2 => ?_)
  · rw [if_pos c2] at hF
    refine k_iload (pc := 42) i_104_42 rfl ?_
    obtain rfl := Option.some.inj hF
    exact k_ireturn (pc := 44) i_104_44 rfl rfl (K _ R)
  · rw [if_neg c2] at hF
    refine k_aload_n (pc := 17) i_104_17 rfl rfl ?_
    refine k_getf (pc := 18) i_104_18 f_7_20 (rd_Mo R) rfl ?_
    refine k_iload_n (pc := 21) i_104_21 rfl ?_
    refine k_iload (pc := 22) i_104_22 rfl ?_
    refine k_iload_n (pc := 24) i_104_24 rfl ?_
    obtain ⟨r3, M4, q5, hF⟩ := kBd_el hF
    refine kcs_I (pc := 25) (As := [.int a1, .int a5, .int a2]) (st := [.ref (A (lMa 5))]) (A := A) (T := T) (r := r3) (M1 := M4) i_104_25 m_7_120 rfl rfl rfl (Nat.le_of_ble_eq_true rfl) (hC ▸ D_99 R q5) (fun h R => ?_)
    obtain ⟨g6, hF⟩ := kGx_el hF
    refine k_iald (pc := 28) i_104_28 (rd_Ma_5 R) g6 ?_
    refine k_iload_n (pc := 29) i_104_29 rfl ?_
    refine k_icmp_ne (pc := 30) (tgt := 36) i_104_30 (by decide) (fun c7 => ?_) (fun c7 => ?_)
    · rw [if_neg c7] at hF
      refine k_iinc (pc := 36) (v := a5 + 1) (lo2 := [some (.ref (A lMo)), some (.int a1), some (.int a2), some (.int a3), some (.int a4), some (.int (a5 + 1))]) i_104_36 rfl rfl rfl ?_
      refine k_goto (pc := 39) (tgt := 6) i_104_39 (by decide) ?_
      obtain rfl := Option.some.inj hF
      exact K _ R
    · rw [if_pos c7] at hF
      refine k_iinc (pc := 33) (v := a4 + 1) (lo2 := [some (.ref (A lMo)), some (.int a1), some (.int a2), some (.int a3), some (.int (a4 + 1)), some (.int a5)]) i_104_33 rfl rfl rfl ?_
      refine k_iinc (pc := 36) (v := a5 + 1) (lo2 := [some (.ref (A lMo)), some (.int a1), some (.int a2), some (.int a3), some (.int (a4 + 1)), some (.int (a5 + 1))]) i_104_36 rfl rfl rfl ?_
      refine k_goto (pc := 39) (tgt := 6) i_104_39 (by decide) ?_
      obtain rfl := Option.some.inj hF
      exact K _ R
noncomputable def F_104 (T : kT) (a1 : Int32) (a2 : Int32) (a3 : Int32) (M : kM) : Option (Int32 × kM) :=
  F_104_6 T a1 a2 a3 0 0 M
set_option maxHeartbeats 1000000 in
theorem D_104 {G : kG} {d : Nat} {A : kLb → Nat} {T : kT} {M : kM} {h : kH} {a1 : Int32} {a2 : Int32} {a3 : Int32} {z : (Int32 × kM)} (R : kRl A T M h) (hF : F_104 T a1 a2 a3 M = some z) : kRun G (d + 2) 104 [.ref (A lMo), .int a1, .int a2, .int a3] h 0 0 (kPI A T z) := by
  refine ⟨⟨rfl, Nat.le_of_ble_eq_true rfl⟩, ?_⟩
  show kWP _ _ (kRun G (d + 1)) _ 0 [some (.ref (A lMo)), some (.int a1), some (.int a2), some (.int a3), none, none] [] _ _ _
  have K : (fun z : (Int32 × kM) => ∀ h1, kRl A T z.2 h1 → kPI A T z (.inl (some (.int z.1))) h1) z := fun _ q => ⟨rfl, q⟩
  unfold F_104 at hF
  refine k_iconst (pc := 0) (v := 0) i_104_0 (by decide) ?_
  refine k_istore (pc := 1) (lo2 := [some (.ref (A lMo)), some (.int a1), some (.int a2), some (.int a3), some (.int 0), none]) i_104_1 (Nat.le_of_ble_eq_true rfl) rfl ?_
  refine k_iconst (pc := 3) (v := 0) i_104_3 (by decide) ?_
  refine k_istore (pc := 4) (lo2 := [some (.ref (A lMo)), some (.int a1), some (.int a2), some (.int a3), some (.int 0), some (.int 0)]) i_104_4 (Nat.le_of_ble_eq_true rfl) rfl ?_
  exact W_104_6 (d := d) rfl R K hF
-- 105: RDModel delete
noncomputable def B_105_103 (T : kT) (a1 : Int32) (a2 : Int32) (a3 : Int32) (a4 : Int32) (a5 : Int32) (a6 : Int32) (a7 : Int32) (M : kM) : Option ((Int32 × kM) ⊕ ((Int32 × Int32 × kM) ⊕ (Int32 × kM))) :=
  if 6 ≤ a7 then (some (.inr (.inl ((a5 + 1), (a6 + 1), M)))) else (kBd (F_99 T a1 a5 a7 M) (fun r23 M24 => kBd (F_99 T a1 a6 a7 M24) (fun r26 M27 => kGx r26 1440 (kGx r23 1440 (some (.inl ((a7 + 1), sp M27 (lMa 5) r23.toNatClampNeg (gp M27 (lMa 5) r26.toNatClampNeg))))))))
noncomputable def F_105_103 (T : kT) (a1 : Int32) (a2 : Int32) (a3 : Int32) (a4 : Int32) (a5 : Int32) (a6 : Int32) (a7 : Int32) (M : kM) : Option ((Int32 × Int32 × kM) ⊕ (Int32 × kM)) :=
  kWh (fun w : (Int32 × kM) => B_105_103 T a1 a2 a3 a4 a5 a6 w.1 w.2) (a7, M)
theorem F_105_103_eq (T : kT) (a1 : Int32) (a2 : Int32) (a3 : Int32) (a4 : Int32) (a5 : Int32) (a6 : Int32) (a7 : Int32) (M : kM) : F_105_103 T a1 a2 a3 a4 a5 a6 a7 M = kAg (B_105_103 T a1 a2 a3 a4 a5 a6 a7 M) (fun w => F_105_103 T a1 a2 a3 a4 a5 a6 w.1 w.2) := by
  unfold F_105_103
  rw [kWh_eq]
set_option maxHeartbeats 1000000 in
theorem W_105_103 {G : kG} {d : Nat} {A : kLb → Nat} {C : kCl} {P : kO → kH → Prop} {T : kT} {M : kM} {h : kH} {a1 : Int32} {a2 : Int32} {a3 : Int32} {a4 : Int32} {a5 : Int32} {a6 : Int32} {a7 : Int32} {z : ((Int32 × Int32 × kM) ⊕ (Int32 × kM))} (hC : C = kRun G (d + 3)) (R : kRl A T M h) (K : (Sum.elim (fun w : (Int32 × Int32 × kM) => ∀ (h : kH) (b7 : Option Value), kRl A T w.2.2 h → kWP G 105 C P 70 [some (.ref (A lMo)), some (.int a1), some (.int a2), some (.int a3), some (.int a4), some (.int w.1), some (.int w.2.1), b7] [] h 0 0) (fun z : (Int32 × kM) => ∀ h1, kRl A T z.2 h1 → P (.inl (some (.int z.1))) h1)) z) (hF : F_105_103 T a1 a2 a3 a4 a5 a6 a7 M = some z) : kWP G 105 C P 103 [some (.ref (A lMo)), some (.int a1), some (.int a2), some (.int a3), some (.int a4), some (.int a5), some (.int a6), some (.int a7)] [] h 0 0 := by
  refine kWh_ind (P := (fun w : (Int32 × kM) => ∀ (h : kH), kRl A T w.2 h → kWP G 105 C P 103 [some (.ref (A lMo)), some (.int a1), some (.int a2), some (.int a3), some (.int a4), some (.int a5), some (.int a6), some (.int w.1)] [] h 0 0)) (Q := (Sum.elim (fun w : (Int32 × Int32 × kM) => ∀ (h : kH) (b7 : Option Value), kRl A T w.2.2 h → kWP G 105 C P 70 [some (.ref (A lMo)), some (.int a1), some (.int a2), some (.int a3), some (.int a4), some (.int w.1), some (.int w.2.1), b7] [] h 0 0) (fun z : (Int32 × kM) => ∀ h1, kRl A T z.2 h1 → P (.inl (some (.int z.1))) h1))) hF K ?_ h R
  clear hF K R
  intro w z hF K h R
  obtain ⟨a7, M⟩ := w
  change B_105_103 T a1 a2 a3 a4 a5 a6 a7 M = some z at hF
  change kWP G 105 C P 103 [some (.ref (A lMo)), some (.int a1), some (.int a2), some (.int a3), some (.int a4), some (.int a5), some (.int a6), some (.int a7)] [] h 0 0
  unfold B_105_103 at hF
  refine k_iload (pc := 103) i_105_103 rfl ?_
  refine k_bipush (pc := 105) (v := 6) i_105_105 (by decide) ?_
  refine k_icmp_ge (pc := 107) (tgt := 142) i_105_107 (by decide) (fun c22 => ?_) (fun c22 => ?_)
  · rw [if_pos c22] at hF
    refine k_iinc (pc := 142) (v := a5 + 1) (lo2 := [some (.ref (A lMo)), some (.int a1), some (.int a2), some (.int a3), some (.int a4), some (.int (a5 + 1)), some (.int a6), some (.int a7)]) i_105_142 rfl rfl rfl ?_
    refine k_iinc (pc := 145) (v := a6 + 1) (lo2 := [some (.ref (A lMo)), some (.int a1), some (.int a2), some (.int a3), some (.int a4), some (.int (a5 + 1)), some (.int (a6 + 1)), some (.int a7)]) i_105_145 rfl rfl rfl ?_
    refine k_goto (pc := 148) (tgt := 70) i_105_148 (by decide) ?_
    obtain rfl := Option.some.inj hF
    exact K _ _ R
  · rw [if_neg c22] at hF
    refine k_aload_n (pc := 110) i_105_110 rfl rfl ?_
    refine k_getf (pc := 111) i_105_111 f_7_20 (rd_Mo R) rfl ?_
    refine k_iload_n (pc := 114) i_105_114 rfl ?_
    refine k_iload (pc := 115) i_105_115 rfl ?_
    refine k_iload (pc := 117) i_105_117 rfl ?_
    obtain ⟨r23, M24, q25, hF⟩ := kBd_el hF
    refine kcs_I (pc := 119) (As := [.int a1, .int a5, .int a7]) (st := [.ref (A (lMa 5))]) (A := A) (T := T) (r := r23) (M1 := M24) i_105_119 m_7_120 rfl rfl rfl (Nat.le_of_ble_eq_true rfl) (hC ▸ D_99 R q25) (fun h R => ?_)
    refine k_aload_n (pc := 122) i_105_122 rfl rfl ?_
    refine k_getf (pc := 123) i_105_123 f_7_20 (rd_Mo R) rfl ?_
    refine k_iload_n (pc := 126) i_105_126 rfl ?_
    refine k_iload (pc := 127) i_105_127 rfl ?_
    refine k_iload (pc := 129) i_105_129 rfl ?_
    obtain ⟨r26, M27, q28, hF⟩ := kBd_el hF
    refine kcs_I (pc := 131) (As := [.int a1, .int a6, .int a7]) (st := [.ref (A (lMa 5)), .int r23, .ref (A (lMa 5))]) (A := A) (T := T) (r := r26) (M1 := M27) i_105_131 m_7_120 rfl rfl rfl (Nat.le_of_ble_eq_true rfl) (hC ▸ D_99 R q28) (fun h R => ?_)
    obtain ⟨g29, hF⟩ := kGx_el hF
    refine k_iald (pc := 134) i_105_134 (rd_Ma_5 R) g29 ?_
    obtain ⟨g30, hF⟩ := kGx_el hF
    refine k_iast (pc := 135) i_105_135 (rd_Ma_5 R) g30 (fun h e31 => ?_)
    replace R := kRl_sp (l := (lMa 5)) (k := r23.toNatClampNeg) (v := gp M27 (lMa 5) r26.toNatClampNeg) R rfl e31
    clear e31
    refine k_iinc (pc := 136) (v := a7 + 1) (lo2 := [some (.ref (A lMo)), some (.int a1), some (.int a2), some (.int a3), some (.int a4), some (.int a5), some (.int a6), some (.int (a7 + 1))]) i_105_136 rfl rfl rfl ?_
    refine k_goto (pc := 139) (tgt := 103) i_105_139 (by decide) ?_
    obtain rfl := Option.some.inj hF
    exact K _ R
noncomputable def B_105_70 (T : kT) (a1 : Int32) (a2 : Int32) (a3 : Int32) (a4 : Int32) (a5 : Int32) (a6 : Int32) (M : kM) : Option ((Int32 × Int32 × kM) ⊕ (Int32 × kM)) :=
  kGx a1 6 (if (gp M (lMa 4) a1.toNatClampNeg) ≤ a6 then (kGx a1 6 (some (.inr ((a4, sp (sp (sp M (lMa 4) a1.toNatClampNeg a5) lMo 8 ((gp (sp M (lMa 4) a1.toNatClampNeg a5) lMo 8) + a4)) lMo 15 0))))) else (kBd (F_99 T a1 a6 a2 M) (fun r17 M18 => kGx r17 1440 (if (gp M18 (lMa 5) r17.toNatClampNeg) = a3 then (some (.inl (a5, (a6 + 1), M18))) else (F_105_103 T a1 a2 a3 a4 a5 a6 0 M18)))))
noncomputable def F_105_70 (T : kT) (a1 : Int32) (a2 : Int32) (a3 : Int32) (a4 : Int32) (a5 : Int32) (a6 : Int32) (M : kM) : Option (Int32 × kM) :=
  kWh (fun w : (Int32 × Int32 × kM) => B_105_70 T a1 a2 a3 a4 w.1 w.2.1 w.2.2) (a5, a6, M)
theorem F_105_70_eq (T : kT) (a1 : Int32) (a2 : Int32) (a3 : Int32) (a4 : Int32) (a5 : Int32) (a6 : Int32) (M : kM) : F_105_70 T a1 a2 a3 a4 a5 a6 M = kAg (B_105_70 T a1 a2 a3 a4 a5 a6 M) (fun w => F_105_70 T a1 a2 a3 a4 w.1 w.2.1 w.2.2) := by
  unfold F_105_70
  rw [kWh_eq]
set_option maxHeartbeats 1000000 in
theorem W_105_70 {G : kG} {d : Nat} {A : kLb → Nat} {C : kCl} {P : kO → kH → Prop} {T : kT} {M : kM} {h : kH} {a1 : Int32} {a2 : Int32} {a3 : Int32} {a4 : Int32} {a5 : Int32} {a6 : Int32} {b7 : Option Value} {z : (Int32 × kM)} (hC : C = kRun G (d + 3)) (R : kRl A T M h) (K : (fun z : (Int32 × kM) => ∀ h1, kRl A T z.2 h1 → P (.inl (some (.int z.1))) h1) z) (hF : F_105_70 T a1 a2 a3 a4 a5 a6 M = some z) : kWP G 105 C P 70 [some (.ref (A lMo)), some (.int a1), some (.int a2), some (.int a3), some (.int a4), some (.int a5), some (.int a6), b7] [] h 0 0 := by
  refine kWh_ind (P := (fun w : (Int32 × Int32 × kM) => ∀ (h : kH) (b7 : Option Value), kRl A T w.2.2 h → kWP G 105 C P 70 [some (.ref (A lMo)), some (.int a1), some (.int a2), some (.int a3), some (.int a4), some (.int w.1), some (.int w.2.1), b7] [] h 0 0)) (Q := (fun z : (Int32 × kM) => ∀ h1, kRl A T z.2 h1 → P (.inl (some (.int z.1))) h1)) hF K ?_ h _ R
  clear hF K R
  intro w z hF K h b7 R
  obtain ⟨a5, a6, M⟩ := w
  change B_105_70 T a1 a2 a3 a4 a5 a6 M = some z at hF
  change kWP G 105 C P 70 [some (.ref (A lMo)), some (.int a1), some (.int a2), some (.int a3), some (.int a4), some (.int a5), some (.int a6), b7] [] h 0 0
  unfold B_105_70 at hF
  refine k_iload (pc := 70) i_105_70 rfl ?_
  refine k_aload_n (pc := 72) i_105_72 rfl rfl ?_
  refine k_getf (pc := 73) i_105_73 f_7_17 (rd_Mo R) rfl ?_
  refine k_iload_n (pc := 76) i_105_76 rfl ?_
  obtain ⟨g11, hF⟩ := kGx_el hF
  refine k_iald (pc := 77) i_105_77 (rd_Ma_4 R) g11 ?_
  refine k_icmp_ge (pc := 78) (tgt := 151) i_105_78 (by decide) (fun c12 => ?_) (fun c12 => ?_)
  · rw [if_pos c12] at hF
    refine k_aload_n (pc := 151) i_105_151 rfl rfl ?_
    refine k_getf (pc := 152) i_105_152 f_7_17 (rd_Mo R) rfl ?_
    refine k_iload_n (pc := 155) i_105_155 rfl ?_
    refine k_iload (pc := 156) i_105_156 rfl ?_
    obtain ⟨g13, hF⟩ := kGx_el hF
    refine k_iast (pc := 158) i_105_158 (rd_Ma_4 R) g13 (fun h e14 => ?_)
    replace R := kRl_sp (l := (lMa 4)) (k := a1.toNatClampNeg) (v := a5) R rfl e14
    clear e14
    refine k_aload_n (pc := 159) i_105_159 rfl rfl ?_
    refine k_aload_n (pc := 160) i_105_160 rfl rfl ?_
    refine k_getf (pc := 161) i_105_161 f_7_117 (rd_Mo R) rfl ?_
    refine k_iload (pc := 164) i_105_164 rfl ?_
    refine k_iadd (pc := 166) i_105_166 ?_
    refine k_putf (pc := 167) i_105_167 f_7_117 (rd_Mo R) (by decide +kernel) (Nat.le_of_ble_eq_true rfl) rfl rfl rfl (fun h e15 => ?_)
    replace R := kRl_sp (l := lMo) (k := 8) (v := (gp (sp M (lMa 4) a1.toNatClampNeg a5) lMo 8) + a4) R rfl e15
    clear e15
    refine k_aload_n (pc := 170) i_105_170 rfl rfl ?_
    refine k_iconst (pc := 171) (v := 0) i_105_171 (by decide) ?_
    refine k_putf (pc := 172) i_105_172 f_7_106 (rd_Mo R) (by decide +kernel) (Nat.le_of_ble_eq_true rfl) rfl rfl rfl (fun h e16 => ?_)
    replace R := kRl_sp (l := lMo) (k := 15) (v := 0) R rfl e16
    clear e16
    refine k_iload (pc := 175) i_105_175 rfl ?_
    obtain rfl := Option.some.inj hF
    exact k_ireturn (pc := 177) i_105_177 rfl rfl (K _ R)
  · rw [if_neg c12] at hF
    refine k_aload_n (pc := 81) i_105_81 rfl rfl ?_
    refine k_getf (pc := 82) i_105_82 f_7_20 (rd_Mo R) rfl ?_
    refine k_iload_n (pc := 85) i_105_85 rfl ?_
    refine k_iload (pc := 86) i_105_86 rfl ?_
    refine k_iload_n (pc := 88) i_105_88 rfl ?_
    obtain ⟨r17, M18, q19, hF⟩ := kBd_el hF
    refine kcs_I (pc := 89) (As := [.int a1, .int a6, .int a2]) (st := [.ref (A (lMa 5))]) (A := A) (T := T) (r := r17) (M1 := M18) i_105_89 m_7_120 rfl rfl rfl (Nat.le_of_ble_eq_true rfl) (hC ▸ D_99 R q19) (fun h R => ?_)
    obtain ⟨g20, hF⟩ := kGx_el hF
    refine k_iald (pc := 92) i_105_92 (rd_Ma_5 R) g20 ?_
    refine k_iload_n (pc := 93) i_105_93 rfl ?_
    refine k_icmp_ne (pc := 94) (tgt := 100) i_105_94 (by decide) (fun c21 => ?_) (fun c21 => ?_)
    · rw [if_neg c21] at hF
      refine k_iconst (pc := 100) (v := 0) i_105_100 (by decide) ?_
      refine k_istore (pc := 101) (lo2 := [some (.ref (A lMo)), some (.int a1), some (.int a2), some (.int a3), some (.int a4), some (.int a5), some (.int a6), some (.int 0)]) i_105_101 (Nat.le_of_ble_eq_true rfl) rfl ?_
      exact W_105_103 (d := d) hC R K hF
    · rw [if_pos c21] at hF
      refine k_goto (pc := 97) (tgt := 145) i_105_97 (by decide) ?_
      refine k_iinc (pc := 145) (v := a6 + 1) (lo2 := [some (.ref (A lMo)), some (.int a1), some (.int a2), some (.int a3), some (.int a4), some (.int a5), some (.int (a6 + 1)), b7]) i_105_145 rfl rfl rfl ?_
      refine k_goto (pc := 148) (tgt := 70) i_105_148 (by decide) ?_
      obtain rfl := Option.some.inj hF
      exact K _ _ R
noncomputable def F_105_43 (T : kT) (a1 : Int32) (a2 : Int32) (a3 : Int32) (s0 : Int32) (M : kM) : Option (Int32 × kM) :=
  if (gp (sp M lMo 0 s0) lMo 0) ≤ 0 then (kBd (F_104 T a1 a2 a3 (sp M lMo 0 s0)) (fun r8 M9 => F_105_70 T a1 a2 a3 r8 0 0 M9)) else (some (0, sp M lMo 0 s0))
set_option maxHeartbeats 1000000 in
theorem W_105_43 {G : kG} {d : Nat} {A : kLb → Nat} {C : kCl} {P : kO → kH → Prop} {T : kT} {M : kM} {h : kH} {a1 : Int32} {a2 : Int32} {a3 : Int32} {s0 : Int32} {b4 b5 b6 b7 : Option Value} {z : (Int32 × kM)} (hC : C = kRun G (d + 3)) (R : kRl A T M h) (K : (fun z : (Int32 × kM) => ∀ h1, kRl A T z.2 h1 → P (.inl (some (.int z.1))) h1) z) (hF : F_105_43 T a1 a2 a3 s0 M = some z) : kWP G 105 C P 43 [some (.ref (A lMo)), some (.int a1), some (.int a2), some (.int a3), b4, b5, b6, b7] [.int s0, .ref (A lMo)] h 0 0 := by
  unfold F_105_43 at hF
  refine k_putf (pc := 43) i_105_43 f_7_88 (rd_Mo R) (by decide +kernel) (Nat.le_of_ble_eq_true rfl) rfl rfl rfl (fun h e6 => ?_)
  replace R := kRl_sp (l := lMo) (k := 0) (v := s0) R rfl e6
  clear e6
  refine k_aload_n (pc := 46) i_105_46 rfl rfl ?_
  refine k_getf (pc := 47) i_105_47 f_7_88 (rd_Mo R) rfl ?_
  refine k_if_le (pc := 50) (tgt := 55) i_105_50 (by decide) (fun c7 => ?_) (fun c7 => ?_)
  · rw [if_pos c7] at hF
    refine k_aload_n (pc := 55) i_105_55 rfl rfl ?_
    refine k_iload_n (pc := 56) i_105_56 rfl ?_
    refine k_iload_n (pc := 57) i_105_57 rfl ?_
    refine k_iload_n (pc := 58) i_105_58 rfl ?_
    obtain ⟨r8, M9, q10, hF⟩ := kBd_el hF
    refine kcv_I (pc := 59) (As := [.ref (A lMo), .int a1, .int a2, .int a3]) (st := []) (A := A) (T := T) (r := r8) (M1 := M9) i_105_59 m_7_123 rfl rfl rfl rfl (rd_Mo R) rfl (Nat.le_of_ble_eq_true rfl) (hC ▸ D_104 R q10) (fun h R => ?_)
    refine k_istore (pc := 62) (lo2 := [some (.ref (A lMo)), some (.int a1), some (.int a2), some (.int a3), some (.int r8), b5, b6, b7]) i_105_62 (Nat.le_of_ble_eq_true rfl) rfl ?_
    refine k_iconst (pc := 64) (v := 0) i_105_64 (by decide) ?_
    refine k_istore (pc := 65) (lo2 := [some (.ref (A lMo)), some (.int a1), some (.int a2), some (.int a3), some (.int r8), some (.int 0), b6, b7]) i_105_65 (Nat.le_of_ble_eq_true rfl) rfl ?_
    refine k_iconst (pc := 67) (v := 0) i_105_67 (by decide) ?_
    refine k_istore (pc := 68) (lo2 := [some (.ref (A lMo)), some (.int a1), some (.int a2), some (.int a3), some (.int r8), some (.int 0), some (.int 0), b7]) i_105_68 (Nat.le_of_ble_eq_true rfl) rfl ?_
    exact W_105_70 (d := d) hC R K hF
  · rw [if_neg c7] at hF
    refine k_iconst (pc := 53) (v := 0) i_105_53 (by decide) ?_
    obtain rfl := Option.some.inj hF
    exact k_ireturn (pc := 54) i_105_54 rfl rfl (K _ R)
noncomputable def F_105 (T : kT) (a1 : Int32) (a2 : Int32) (a3 : Int32) (M : kM) : Option (Int32 × kM) :=
  kBd (F_98 T a1 a2 M) (fun r1 M2 => if r1 = 0 then (F_105_43 T a1 a2 a3 1 M2) else (if (gp M2 lMo 7) = 0 then (F_105_43 T a1 a2 a3 0 M2) else (kBd (F_104 T a1 a2 a3 M2) (fun r6 M7 => if ((gp M2 lMo 8) + r6) ≤ 120 then (F_105_43 T a1 a2 a3 0 M7) else (F_105_43 T a1 a2 a3 2 M7)))))
set_option maxHeartbeats 1000000 in
theorem D_105 {G : kG} {d : Nat} {A : kLb → Nat} {T : kT} {M : kM} {h : kH} {a1 : Int32} {a2 : Int32} {a3 : Int32} {z : (Int32 × kM)} (R : kRl A T M h) (hF : F_105 T a1 a2 a3 M = some z) : kRun G (d + 4) 105 [.ref (A lMo), .int a1, .int a2, .int a3] h 0 0 (kPI A T z) := by
  refine ⟨⟨rfl, Nat.le_of_ble_eq_true rfl⟩, ?_⟩
  show kWP _ _ (kRun G (d + 3)) _ 0 [some (.ref (A lMo)), some (.int a1), some (.int a2), some (.int a3), none, none, none, none] [] _ _ _
  have K : (fun z : (Int32 × kM) => ∀ h1, kRl A T z.2 h1 → kPI A T z (.inl (some (.int z.1))) h1) z := fun _ q => ⟨rfl, q⟩
  unfold F_105 at hF
  refine k_aload_n (pc := 0) i_105_0 rfl rfl ?_
  refine k_aload_n (pc := 1) i_105_1 rfl rfl ?_
  refine k_iload_n (pc := 2) i_105_2 rfl ?_
  refine k_iload_n (pc := 3) i_105_3 rfl ?_
  obtain ⟨r1, M2, q3, hF⟩ := kBd_el hF
  refine kcv_I (pc := 4) (As := [.ref (A lMo), .int a1, .int a2]) (st := [.ref (A lMo)]) (A := A) (T := T) (r := r1) (M1 := M2) i_105_4 m_7_109 rfl rfl rfl rfl (rd_Mo R) rfl (Nat.le_of_ble_eq_true rfl) (D_98 R q3) (fun h R => ?_)
  refine k_if_ne (pc := 7) (tgt := 14) i_105_7 (by decide) (fun c4 => ?_) (fun c4 => ?_)
  · rw [if_neg c4] at hF
    refine k_aload_n (pc := 14) i_105_14 rfl rfl ?_
    refine k_getf (pc := 15) i_105_15 f_7_102 (rd_Mo R) rfl ?_
    refine k_if_eq (pc := 18) (tgt := 42) i_105_18 (by decide) (fun c5 => ?_) (fun c5 => ?_)
    · rw [if_pos c5] at hF
      refine k_iconst (pc := 42) (v := 0) i_105_42 (by decide) ?_
      exact W_105_43 (d := d) rfl R K hF
    · rw [if_neg c5] at hF
      refine k_aload_n (pc := 21) i_105_21 rfl rfl ?_
      refine k_getf (pc := 22) i_105_22 f_7_117 (rd_Mo R) rfl ?_
      refine k_aload_n (pc := 25) i_105_25 rfl rfl ?_
      refine k_iload_n (pc := 26) i_105_26 rfl ?_
      refine k_iload_n (pc := 27) i_105_27 rfl ?_
      refine k_iload_n (pc := 28) i_105_28 rfl ?_
      obtain ⟨r6, M7, q8, hF⟩ := kBd_el hF
      refine kcv_I (pc := 29) (As := [.ref (A lMo), .int a1, .int a2, .int a3]) (st := [.int (gp M2 lMo 8), .ref (A lMo)]) (A := A) (T := T) (r := r6) (M1 := M7) i_105_29 m_7_123 rfl rfl rfl rfl (rd_Mo R) rfl (Nat.le_of_ble_eq_true rfl) (D_104 R q8) (fun h R => ?_)
      refine k_iadd (pc := 32) i_105_32 ?_
      refine k_bipush (pc := 33) (v := 120) i_105_33 (by decide) ?_
      refine k_icmp_le (pc := 35) (tgt := 42) i_105_35 (by decide) (fun c9 => ?_) (fun c9 => ?_)
      · rw [if_pos c9] at hF
        refine k_iconst (pc := 42) (v := 0) i_105_42 (by decide) ?_
        exact W_105_43 (d := d) rfl R K hF
      · rw [if_neg c9] at hF
        refine k_iconst (pc := 38) (v := 2) i_105_38 (by decide) ?_
        refine k_goto (pc := 39) (tgt := 43) i_105_39 (by decide) ?_
        exact W_105_43 (d := d) rfl R K hF
  · rw [if_pos c4] at hF
    refine k_iconst (pc := 10) (v := 1) i_105_10 (by decide) ?_
    refine k_goto (pc := 11) (tgt := 43) i_105_11 (by decide) ?_
    exact W_105_43 (d := d) rfl R K hF
-- 106: RDModel change
noncomputable def B_106_89 (T : kT) (a1 : Int32) (a3 : Int32) (a4 : Int32) (a5 : Int32) (a6 : Int32) (a7 : Int32) (a8 : Int32) (M : kM) : Option ((Int32 × Int32 × kM) ⊕ (Int32 × kM)) :=
  kGx a1 6 (if (gp M (lMa 4) a1.toNatClampNeg) ≤ a8 then (some (.inr ((a7, sp (sp M lMo 8 ((gp M lMo 8) + a7)) lMo 15 0)))) else (kBd (F_99 T a1 a8 a5 M) (fun r8 M9 => kGx r8 1440 (if (gp M9 (lMa 5) r8.toNatClampNeg) = a3 then (kBd (F_99 T a1 a8 a6 M9) (fun r13 M14 => kGx r13 1440 (some (.inl ((a7 + 1), (a8 + 1), sp M14 (lMa 5) r13.toNatClampNeg a4))))) else (some (.inl (a7, (a8 + 1), M9)))))))
noncomputable def F_106_89 (T : kT) (a1 : Int32) (a3 : Int32) (a4 : Int32) (a5 : Int32) (a6 : Int32) (a7 : Int32) (a8 : Int32) (M : kM) : Option (Int32 × kM) :=
  kWh (fun w : (Int32 × Int32 × kM) => B_106_89 T a1 a3 a4 a5 a6 w.1 w.2.1 w.2.2) (a7, a8, M)
theorem F_106_89_eq (T : kT) (a1 : Int32) (a3 : Int32) (a4 : Int32) (a5 : Int32) (a6 : Int32) (a7 : Int32) (a8 : Int32) (M : kM) : F_106_89 T a1 a3 a4 a5 a6 a7 a8 M = kAg (B_106_89 T a1 a3 a4 a5 a6 a7 a8 M) (fun w => F_106_89 T a1 a3 a4 a5 a6 w.1 w.2.1 w.2.2) := by
  unfold F_106_89
  rw [kWh_eq]
set_option maxHeartbeats 1000000 in
theorem W_106_89 {G : kG} {d : Nat} {A : kLb → Nat} {C : kCl} {P : kO → kH → Prop} {T : kT} {M : kM} {h : kH} {a1 : Int32} {a3 : Int32} {a4 : Int32} {a5 : Int32} {a6 : Int32} {a7 : Int32} {a8 : Int32} {b2 : Option Value} {z : (Int32 × kM)} (hC : C = kRun G (d + 3)) (R : kRl A T M h) (K : (fun z : (Int32 × kM) => ∀ h1, kRl A T z.2 h1 → P (.inl (some (.int z.1))) h1) z) (hF : F_106_89 T a1 a3 a4 a5 a6 a7 a8 M = some z) : kWP G 106 C P 89 [some (.ref (A lMo)), some (.int a1), b2, some (.int a3), some (.int a4), some (.int a5), some (.int a6), some (.int a7), some (.int a8)] [] h 0 0 := by
  refine kWh_ind (P := (fun w : (Int32 × Int32 × kM) => ∀ (h : kH) (b2 : Option Value), kRl A T w.2.2 h → kWP G 106 C P 89 [some (.ref (A lMo)), some (.int a1), b2, some (.int a3), some (.int a4), some (.int a5), some (.int a6), some (.int w.1), some (.int w.2.1)] [] h 0 0)) (Q := (fun z : (Int32 × kM) => ∀ h1, kRl A T z.2 h1 → P (.inl (some (.int z.1))) h1)) hF K ?_ h _ R
  clear hF K R
  intro w z hF K h b2 R
  obtain ⟨a7, a8, M⟩ := w
  change B_106_89 T a1 a3 a4 a5 a6 a7 a8 M = some z at hF
  change kWP G 106 C P 89 [some (.ref (A lMo)), some (.int a1), b2, some (.int a3), some (.int a4), some (.int a5), some (.int a6), some (.int a7), some (.int a8)] [] h 0 0
  unfold B_106_89 at hF
  refine k_iload (pc := 89) i_106_89 rfl ?_
  refine k_aload_n (pc := 91) i_106_91 rfl rfl ?_
  refine k_getf (pc := 92) i_106_92 f_7_17 (rd_Mo R) rfl ?_
  refine k_iload_n (pc := 95) i_106_95 rfl ?_
  obtain ⟨g4, hF⟩ := kGx_el hF
  refine k_iald (pc := 96) i_106_96 (rd_Ma_4 R) g4 ?_
  refine k_icmp_ge (pc := 97) (tgt := 144) i_106_97 (by decide) (fun c5 => ?_) (fun c5 => ?_)
  · rw [if_pos c5] at hF
    refine k_aload_n (pc := 144) i_106_144 rfl rfl ?_
    refine k_aload_n (pc := 145) i_106_145 rfl rfl ?_
    refine k_getf (pc := 146) i_106_146 f_7_117 (rd_Mo R) rfl ?_
    refine k_iload (pc := 149) i_106_149 rfl ?_
    refine k_iadd (pc := 151) i_106_151 ?_
    refine k_putf (pc := 152) i_106_152 f_7_117 (rd_Mo R) (by decide +kernel) (Nat.le_of_ble_eq_true rfl) rfl rfl rfl (fun h e6 => ?_)
    replace R := kRl_sp (l := lMo) (k := 8) (v := (gp M lMo 8) + a7) R rfl e6
    clear e6
    refine k_aload_n (pc := 155) i_106_155 rfl rfl ?_
    refine k_iconst (pc := 156) (v := 0) i_106_156 (by decide) ?_
    refine k_putf (pc := 157) i_106_157 f_7_106 (rd_Mo R) (by decide +kernel) (Nat.le_of_ble_eq_true rfl) rfl rfl rfl (fun h e7 => ?_)
    replace R := kRl_sp (l := lMo) (k := 15) (v := 0) R rfl e7
    clear e7
    refine k_iload (pc := 160) i_106_160 rfl ?_
    obtain rfl := Option.some.inj hF
    exact k_ireturn (pc := 162) i_106_162 rfl rfl (K _ R)
  · rw [if_neg c5] at hF
    refine k_aload_n (pc := 100) i_106_100 rfl rfl ?_
    refine k_getf (pc := 101) i_106_101 f_7_20 (rd_Mo R) rfl ?_
    refine k_iload_n (pc := 104) i_106_104 rfl ?_
    refine k_iload (pc := 105) i_106_105 rfl ?_
    refine k_iload (pc := 107) i_106_107 rfl ?_
    obtain ⟨r8, M9, q10, hF⟩ := kBd_el hF
    refine kcs_I (pc := 109) (As := [.int a1, .int a8, .int a5]) (st := [.ref (A (lMa 5))]) (A := A) (T := T) (r := r8) (M1 := M9) i_106_109 m_7_120 rfl rfl rfl (Nat.le_of_ble_eq_true rfl) (hC ▸ D_99 R q10) (fun h R => ?_)
    obtain ⟨g11, hF⟩ := kGx_el hF
    refine k_iald (pc := 112) i_106_112 (rd_Ma_5 R) g11 ?_
    refine k_iload_n (pc := 113) i_106_113 rfl ?_
    refine k_icmp_eq (pc := 114) (tgt := 120) i_106_114 (by decide) (fun c12 => ?_) (fun c12 => ?_)
    · rw [if_pos c12] at hF
      refine k_aload_n (pc := 120) i_106_120 rfl rfl ?_
      refine k_getf (pc := 121) i_106_121 f_7_20 (rd_Mo R) rfl ?_
      refine k_iload_n (pc := 124) i_106_124 rfl ?_
      refine k_iload (pc := 125) i_106_125 rfl ?_
      refine k_iload (pc := 127) i_106_127 rfl ?_
      obtain ⟨r13, M14, q15, hF⟩ := kBd_el hF
      refine kcs_I (pc := 129) (As := [.int a1, .int a8, .int a6]) (st := [.ref (A (lMa 5))]) (A := A) (T := T) (r := r13) (M1 := M14) i_106_129 m_7_120 rfl rfl rfl (Nat.le_of_ble_eq_true rfl) (hC ▸ D_99 R q15) (fun h R => ?_)
      refine k_iload (pc := 132) i_106_132 rfl ?_
      obtain ⟨g16, hF⟩ := kGx_el hF
      refine k_iast (pc := 134) i_106_134 (rd_Ma_5 R) g16 (fun h e17 => ?_)
      replace R := kRl_sp (l := (lMa 5)) (k := r13.toNatClampNeg) (v := a4) R rfl e17
      clear e17
      refine k_iinc (pc := 135) (v := a7 + 1) (lo2 := [some (.ref (A lMo)), some (.int a1), b2, some (.int a3), some (.int a4), some (.int a5), some (.int a6), some (.int (a7 + 1)), some (.int a8)]) i_106_135 rfl rfl rfl ?_
      refine k_iinc (pc := 138) (v := a8 + 1) (lo2 := [some (.ref (A lMo)), some (.int a1), b2, some (.int a3), some (.int a4), some (.int a5), some (.int a6), some (.int (a7 + 1)), some (.int (a8 + 1))]) i_106_138 rfl rfl rfl ?_
      refine k_goto (pc := 141) (tgt := 89) i_106_141 (by decide) ?_
      obtain rfl := Option.some.inj hF
      exact K _ _ R
    · rw [if_neg c12] at hF
      refine k_goto (pc := 117) (tgt := 138) i_106_117 (by decide) ?_
      refine k_iinc (pc := 138) (v := a8 + 1) (lo2 := [some (.ref (A lMo)), some (.int a1), b2, some (.int a3), some (.int a4), some (.int a5), some (.int a6), some (.int a7), some (.int (a8 + 1))]) i_106_138 rfl rfl rfl ?_
      refine k_goto (pc := 141) (tgt := 89) i_106_141 (by decide) ?_
      obtain rfl := Option.some.inj hF
      exact K _ _ R
noncomputable def F_106_71 (T : kT) (a1 : Int32) (a3 : Int32) (a4 : Int32) (a5 : Int32) (a6 : Int32) (s0 : Int32) (M : kM) : Option (Int32 × kM) :=
  if (gp (sp M lMo 0 s0) lMo 0) ≤ 0 then (F_106_89 T a1 a3 a4 a5 a6 0 0 (sp M lMo 0 s0)) else (some (0, sp M lMo 0 s0))
set_option maxHeartbeats 1000000 in
theorem W_106_71 {G : kG} {d : Nat} {A : kLb → Nat} {C : kCl} {P : kO → kH → Prop} {T : kT} {M : kM} {h : kH} {a1 : Int32} {a3 : Int32} {a4 : Int32} {a5 : Int32} {a6 : Int32} {s0 : Int32} {b2 b7 b8 : Option Value} {z : (Int32 × kM)} (hC : C = kRun G (d + 3)) (R : kRl A T M h) (K : (fun z : (Int32 × kM) => ∀ h1, kRl A T z.2 h1 → P (.inl (some (.int z.1))) h1) z) (hF : F_106_71 T a1 a3 a4 a5 a6 s0 M = some z) : kWP G 106 C P 71 [some (.ref (A lMo)), some (.int a1), b2, some (.int a3), some (.int a4), some (.int a5), some (.int a6), b7, b8] [.int s0, .ref (A lMo)] h 0 0 := by
  unfold F_106_71 at hF
  refine k_putf (pc := 71) i_106_71 f_7_88 (rd_Mo R) (by decide +kernel) (Nat.le_of_ble_eq_true rfl) rfl rfl rfl (fun h e2 => ?_)
  replace R := kRl_sp (l := lMo) (k := 0) (v := s0) R rfl e2
  clear e2
  refine k_aload_n (pc := 74) i_106_74 rfl rfl ?_
  refine k_getf (pc := 75) i_106_75 f_7_88 (rd_Mo R) rfl ?_
  refine k_if_le (pc := 78) (tgt := 83) i_106_78 (by decide) (fun c3 => ?_) (fun c3 => ?_)
  · rw [if_pos c3] at hF
    refine k_iconst (pc := 83) (v := 0) i_106_83 (by decide) ?_
    refine k_istore (pc := 84) (lo2 := [some (.ref (A lMo)), some (.int a1), b2, some (.int a3), some (.int a4), some (.int a5), some (.int a6), some (.int 0), b8]) i_106_84 (Nat.le_of_ble_eq_true rfl) rfl ?_
    refine k_iconst (pc := 86) (v := 0) i_106_86 (by decide) ?_
    refine k_istore (pc := 87) (lo2 := [some (.ref (A lMo)), some (.int a1), b2, some (.int a3), some (.int a4), some (.int a5), some (.int a6), some (.int 0), some (.int 0)]) i_106_87 (Nat.le_of_ble_eq_true rfl) rfl ?_
    exact W_106_89 (d := d) hC R K hF
  · rw [if_neg c3] at hF
    refine k_iconst (pc := 81) (v := 0) i_106_81 (by decide) ?_
    obtain rfl := Option.some.inj hF
    exact k_ireturn (pc := 82) i_106_82 rfl rfl (K _ R)
noncomputable def F_106 (T : kT) (a1 : Int32) (a2 : Int32) (a3 : Int32) (a4 : Int32) (M : kM) : Option (Int32 × kM) :=
  if a2 < 0 then (F_106_71 T a1 a3 a4 (a2 / 8) (a2 - a2 / 8 * 8) 1 M) else (kBd (F_98 T a1 (a2 / 8) M) (fun r2 M3 => if r2 = 0 then (F_106_71 T a1 a3 a4 (a2 / 8) (a2 - a2 / 8 * 8) 1 M3) else (kBd (F_98 T a1 (a2 - a2 / 8 * 8) M3) (fun r6 M7 => if r6 = 0 then (F_106_71 T a1 a3 a4 (a2 / 8) (a2 - a2 / 8 * 8) 1 M7) else (if (gp M7 lMo 7) = 0 then (F_106_71 T a1 a3 a4 (a2 / 8) (a2 - a2 / 8 * 8) 0 M7) else (kBd (F_104 T a1 (a2 / 8) a3 M7) (fun r11 M12 => if ((gp M7 lMo 8) + r11) ≤ 120 then (F_106_71 T a1 a3 a4 (a2 / 8) (a2 - a2 / 8 * 8) 0 M12) else (F_106_71 T a1 a3 a4 (a2 / 8) (a2 - a2 / 8 * 8) 2 M12))))))))
set_option maxHeartbeats 1000000 in
theorem D_106 {G : kG} {d : Nat} {A : kLb → Nat} {T : kT} {M : kM} {h : kH} {a1 : Int32} {a2 : Int32} {a3 : Int32} {a4 : Int32} {z : (Int32 × kM)} (R : kRl A T M h) (hF : F_106 T a1 a2 a3 a4 M = some z) : kRun G (d + 4) 106 [.ref (A lMo), .int a1, .int a2, .int a3, .int a4] h 0 0 (kPI A T z) := by
  refine ⟨⟨rfl, Nat.le_of_ble_eq_true rfl⟩, ?_⟩
  show kWP _ _ (kRun G (d + 3)) _ 0 [some (.ref (A lMo)), some (.int a1), some (.int a2), some (.int a3), some (.int a4), none, none, none, none] [] _ _ _
  have K : (fun z : (Int32 × kM) => ∀ h1, kRl A T z.2 h1 → kPI A T z (.inl (some (.int z.1))) h1) z := fun _ q => ⟨rfl, q⟩
  unfold F_106 at hF
  refine k_iload_n (pc := 0) i_106_0 rfl ?_
  refine k_bipush (pc := 1) (v := 8) i_106_1 (by decide) ?_
  refine k_idiv (pc := 3) i_106_3 (by decide) ?_
  refine k_istore (pc := 4) (lo2 := [some (.ref (A lMo)), some (.int a1), some (.int a2), some (.int a3), some (.int a4), some (.int (a2 / 8)), none, none, none]) i_106_4 (Nat.le_of_ble_eq_true rfl) rfl ?_
  refine k_iload_n (pc := 6) i_106_6 rfl ?_
  refine k_bipush (pc := 7) (v := 8) i_106_7 (by decide) ?_
  refine k_irem (pc := 9) i_106_9 (by decide) ?_
  refine k_istore (pc := 10) (lo2 := [some (.ref (A lMo)), some (.int a1), some (.int a2), some (.int a3), some (.int a4), some (.int (a2 / 8)), some (.int (a2 - a2 / 8 * 8)), none, none]) i_106_10 (Nat.le_of_ble_eq_true rfl) rfl ?_
  refine k_aload_n (pc := 12) i_106_12 rfl rfl ?_
  refine k_iload_n (pc := 13) i_106_13 rfl ?_
  refine k_if_lt (pc := 14) (tgt := 37) i_106_14 (by decide) (fun c1 => ?_) (fun c1 => ?_)
  · rw [if_pos c1] at hF
    refine k_iconst (pc := 37) (v := 1) i_106_37 (by decide) ?_
    refine k_goto (pc := 38) (tgt := 71) i_106_38 (by decide) ?_
    exact W_106_71 (d := d) rfl R K hF
  · rw [if_neg c1] at hF
    refine k_aload_n (pc := 17) i_106_17 rfl rfl ?_
    refine k_iload_n (pc := 18) i_106_18 rfl ?_
    refine k_iload (pc := 19) i_106_19 rfl ?_
    obtain ⟨r2, M3, q4, hF⟩ := kBd_el hF
    refine kcv_I (pc := 21) (As := [.ref (A lMo), .int a1, .int (a2 / 8)]) (st := [.ref (A lMo)]) (A := A) (T := T) (r := r2) (M1 := M3) i_106_21 m_7_109 rfl rfl rfl rfl (rd_Mo R) rfl (Nat.le_of_ble_eq_true rfl) (D_98 R q4) (fun h R => ?_)
    refine k_if_eq (pc := 24) (tgt := 37) i_106_24 (by decide) (fun c5 => ?_) (fun c5 => ?_)
    · rw [if_pos c5] at hF
      refine k_iconst (pc := 37) (v := 1) i_106_37 (by decide) ?_
      refine k_goto (pc := 38) (tgt := 71) i_106_38 (by decide) ?_
      exact W_106_71 (d := d) rfl R K hF
    · rw [if_neg c5] at hF
      refine k_aload_n (pc := 27) i_106_27 rfl rfl ?_
      refine k_iload_n (pc := 28) i_106_28 rfl ?_
      refine k_iload (pc := 29) i_106_29 rfl ?_
      obtain ⟨r6, M7, q8, hF⟩ := kBd_el hF
      refine kcv_I (pc := 31) (As := [.ref (A lMo), .int a1, .int (a2 - a2 / 8 * 8)]) (st := [.ref (A lMo)]) (A := A) (T := T) (r := r6) (M1 := M7) i_106_31 m_7_109 rfl rfl rfl rfl (rd_Mo R) rfl (Nat.le_of_ble_eq_true rfl) (D_98 R q8) (fun h R => ?_)
      refine k_if_ne (pc := 34) (tgt := 41) i_106_34 (by decide) (fun c9 => ?_) (fun c9 => ?_)
      · rw [if_neg c9] at hF
        refine k_aload_n (pc := 41) i_106_41 rfl rfl ?_
        refine k_getf (pc := 42) i_106_42 f_7_102 (rd_Mo R) rfl ?_
        refine k_if_eq (pc := 45) (tgt := 70) i_106_45 (by decide) (fun c10 => ?_) (fun c10 => ?_)
        · rw [if_pos c10] at hF
          refine k_iconst (pc := 70) (v := 0) i_106_70 (by decide) ?_
          exact W_106_71 (d := d) rfl R K hF
        · rw [if_neg c10] at hF
          refine k_aload_n (pc := 48) i_106_48 rfl rfl ?_
          refine k_getf (pc := 49) i_106_49 f_7_117 (rd_Mo R) rfl ?_
          refine k_aload_n (pc := 52) i_106_52 rfl rfl ?_
          refine k_iload_n (pc := 53) i_106_53 rfl ?_
          refine k_iload (pc := 54) i_106_54 rfl ?_
          refine k_iload_n (pc := 56) i_106_56 rfl ?_
          obtain ⟨r11, M12, q13, hF⟩ := kBd_el hF
          refine kcv_I (pc := 57) (As := [.ref (A lMo), .int a1, .int (a2 / 8), .int a3]) (st := [.int (gp M7 lMo 8), .ref (A lMo)]) (A := A) (T := T) (r := r11) (M1 := M12) i_106_57 m_7_123 rfl rfl rfl rfl (rd_Mo R) rfl (Nat.le_of_ble_eq_true rfl) (D_104 R q13) (fun h R => ?_)
          refine k_iadd (pc := 60) i_106_60 ?_
          refine k_bipush (pc := 61) (v := 120) i_106_61 (by decide) ?_
          refine k_icmp_le (pc := 63) (tgt := 70) i_106_63 (by decide) (fun c14 => ?_) (fun c14 => ?_)
          · rw [if_pos c14] at hF
            refine k_iconst (pc := 70) (v := 0) i_106_70 (by decide) ?_
            exact W_106_71 (d := d) rfl R K hF
          · rw [if_neg c14] at hF
            refine k_iconst (pc := 66) (v := 2) i_106_66 (by decide) ?_
            refine k_goto (pc := 67) (tgt := 71) i_106_67 (by decide) ?_
            exact W_106_71 (d := d) rfl R K hF
      · rw [if_pos c9] at hF
        refine k_iconst (pc := 37) (v := 1) i_106_37 (by decide) ?_
        refine k_goto (pc := 38) (tgt := 71) i_106_38 (by decide) ?_
        exact W_106_71 (d := d) rfl R K hF
-- 107: RDModel begin
noncomputable def B_107_55 (T : kT) (a1 : Int32) (M : kM) : Option ((Int32 × kM) ⊕ (Unit × kM)) :=
  if 6 ≤ a1 then (some (.inr (((), sp (sp (sp M lMo 7 1) lMo 8 0) lMo 15 0)))) else (kGx a1 6 (kGx a1 6 (some (.inl ((a1 + 1), sp M (lMa 9) a1.toNatClampNeg (gp M (lMa 4) a1.toNatClampNeg))))))
noncomputable def F_107_55 (T : kT) (a1 : Int32) (M : kM) : Option (Unit × kM) :=
  kWh (fun w : (Int32 × kM) => B_107_55 T w.1 w.2) (a1, M)
theorem F_107_55_eq (T : kT) (a1 : Int32) (M : kM) : F_107_55 T a1 M = kAg (B_107_55 T a1 M) (fun w => F_107_55 T w.1 w.2) := by
  unfold F_107_55
  rw [kWh_eq]
set_option maxHeartbeats 1000000 in
theorem W_107_55 {G : kG} {d : Nat} {A : kLb → Nat} {C : kCl} {P : kO → kH → Prop} {T : kT} {M : kM} {h : kH} {a1 : Int32} {z : (Unit × kM)} (hC : C = kRun G (d + 0)) (R : kRl A T M h) (K : (fun z : (Unit × kM) => ∀ h1, kRl A T z.2 h1 → P (.inl none) h1) z) (hF : F_107_55 T a1 M = some z) : kWP G 107 C P 55 [some (.ref (A lMo)), some (.int a1)] [] h 0 0 := by
  refine kWh_ind (P := (fun w : (Int32 × kM) => ∀ (h : kH), kRl A T w.2 h → kWP G 107 C P 55 [some (.ref (A lMo)), some (.int w.1)] [] h 0 0)) (Q := (fun z : (Unit × kM) => ∀ h1, kRl A T z.2 h1 → P (.inl none) h1)) hF K ?_ h R
  clear hF K R
  intro w z hF K h R
  obtain ⟨a1, M⟩ := w
  change B_107_55 T a1 M = some z at hF
  change kWP G 107 C P 55 [some (.ref (A lMo)), some (.int a1)] [] h 0 0
  unfold B_107_55 at hF
  refine k_iload_n (pc := 55) i_107_55 rfl ?_
  refine k_bipush (pc := 56) (v := 6) i_107_56 (by decide) ?_
  refine k_icmp_ge (pc := 58) (tgt := 79) i_107_58 (by decide) (fun c5 => ?_) (fun c5 => ?_)
  · rw [if_pos c5] at hF
    refine k_aload_n (pc := 79) i_107_79 rfl rfl ?_
    refine k_iconst (pc := 80) (v := 1) i_107_80 (by decide) ?_
    refine k_putf (pc := 81) i_107_81 f_7_102 (rd_Mo R) (by decide +kernel) (Nat.le_of_ble_eq_true rfl) rfl rfl rfl (fun h e6 => ?_)
    replace R := kRl_sp (l := lMo) (k := 7) (v := 1) R rfl e6
    clear e6
    refine k_aload_n (pc := 84) i_107_84 rfl rfl ?_
    refine k_iconst (pc := 85) (v := 0) i_107_85 (by decide) ?_
    refine k_putf (pc := 86) i_107_86 f_7_117 (rd_Mo R) (by decide +kernel) (Nat.le_of_ble_eq_true rfl) rfl rfl rfl (fun h e7 => ?_)
    replace R := kRl_sp (l := lMo) (k := 8) (v := 0) R rfl e7
    clear e7
    refine k_aload_n (pc := 89) i_107_89 rfl rfl ?_
    refine k_iconst (pc := 90) (v := 0) i_107_90 (by decide) ?_
    refine k_putf (pc := 91) i_107_91 f_7_106 (rd_Mo R) (by decide +kernel) (Nat.le_of_ble_eq_true rfl) rfl rfl rfl (fun h e8 => ?_)
    replace R := kRl_sp (l := lMo) (k := 15) (v := 0) R rfl e8
    clear e8
    obtain rfl := Option.some.inj hF
    exact k_return (pc := 94) i_107_94 rfl (K _ R)
  · rw [if_neg c5] at hF
    refine k_aload_n (pc := 61) i_107_61 rfl rfl ?_
    refine k_getf (pc := 62) i_107_62 f_7_26 (rd_Mo R) rfl ?_
    refine k_iload_n (pc := 65) i_107_65 rfl ?_
    refine k_aload_n (pc := 66) i_107_66 rfl rfl ?_
    refine k_getf (pc := 67) i_107_67 f_7_17 (rd_Mo R) rfl ?_
    refine k_iload_n (pc := 70) i_107_70 rfl ?_
    obtain ⟨g9, hF⟩ := kGx_el hF
    refine k_iald (pc := 71) i_107_71 (rd_Ma_4 R) g9 ?_
    obtain ⟨g10, hF⟩ := kGx_el hF
    refine k_iast (pc := 72) i_107_72 (rd_Ma_9 R) g10 (fun h e11 => ?_)
    replace R := kRl_sp (l := (lMa 9)) (k := a1.toNatClampNeg) (v := gp M (lMa 4) a1.toNatClampNeg) R rfl e11
    clear e11
    refine k_iinc (pc := 73) (v := a1 + 1) (lo2 := [some (.ref (A lMo)), some (.int (a1 + 1))]) i_107_73 rfl rfl rfl ?_
    refine k_goto (pc := 76) (tgt := 55) i_107_76 (by decide) ?_
    obtain rfl := Option.some.inj hF
    exact K _ R
noncomputable def B_107_26 (T : kT) (a1 : Int32) (M : kM) : Option ((Int32 × kM) ⊕ (Unit × kM)) :=
  if 1440 ≤ a1 then (kLf (F_107_55 T 0 M)) else (kGx a1 1440 (kGx a1 1440 (some (.inl ((a1 + 1), sp M (lMa 10) a1.toNatClampNeg (gp M (lMa 5) a1.toNatClampNeg))))))
noncomputable def F_107_26 (T : kT) (a1 : Int32) (M : kM) : Option (Unit × kM) :=
  kWh (fun w : (Int32 × kM) => B_107_26 T w.1 w.2) (a1, M)
theorem F_107_26_eq (T : kT) (a1 : Int32) (M : kM) : F_107_26 T a1 M = kAg (B_107_26 T a1 M) (fun w => F_107_26 T w.1 w.2) := by
  unfold F_107_26
  rw [kWh_eq]
set_option maxHeartbeats 1000000 in
theorem W_107_26 {G : kG} {d : Nat} {A : kLb → Nat} {C : kCl} {P : kO → kH → Prop} {T : kT} {M : kM} {h : kH} {a1 : Int32} {z : (Unit × kM)} (hC : C = kRun G (d + 0)) (R : kRl A T M h) (K : (fun z : (Unit × kM) => ∀ h1, kRl A T z.2 h1 → P (.inl none) h1) z) (hF : F_107_26 T a1 M = some z) : kWP G 107 C P 26 [some (.ref (A lMo)), some (.int a1)] [] h 0 0 := by
  refine kWh_ind (P := (fun w : (Int32 × kM) => ∀ (h : kH), kRl A T w.2 h → kWP G 107 C P 26 [some (.ref (A lMo)), some (.int w.1)] [] h 0 0)) (Q := (fun z : (Unit × kM) => ∀ h1, kRl A T z.2 h1 → P (.inl none) h1)) hF K ?_ h R
  clear hF K R
  intro w z hF K h R
  obtain ⟨a1, M⟩ := w
  change B_107_26 T a1 M = some z at hF
  change kWP G 107 C P 26 [some (.ref (A lMo)), some (.int a1)] [] h 0 0
  unfold B_107_26 at hF
  refine k_iload_n (pc := 26) i_107_26 rfl ?_
  refine k_aload_n (pc := 27) i_107_27 rfl rfl ?_
  refine k_getf (pc := 28) i_107_28 f_7_20 (rd_Mo R) rfl ?_
  refine k_alen (pc := 31) (v := 1440) i_107_31 (rd_Ma_5 R) (by decide) rfl ?_
  refine k_icmp_ge (pc := 32) (tgt := 53) i_107_32 (by decide) (fun c4 => ?_) (fun c4 => ?_)
  · rw [if_pos c4] at hF
    refine k_iconst (pc := 53) (v := 0) i_107_53 (by decide) ?_
    refine k_istore_n (pc := 54) (lo2 := [some (.ref (A lMo)), some (.int 0)]) i_107_54 (Nat.le_of_ble_eq_true rfl) rfl ?_
    obtain ⟨z, hG, rfl⟩ := kLf_el hF
    replace hF := hG
    clear hG
    exact W_107_55 (d := d) hC R K hF
  · rw [if_neg c4] at hF
    refine k_aload_n (pc := 35) i_107_35 rfl rfl ?_
    refine k_getf (pc := 36) i_107_36 f_7_29 (rd_Mo R) rfl ?_
    refine k_iload_n (pc := 39) i_107_39 rfl ?_
    refine k_aload_n (pc := 40) i_107_40 rfl rfl ?_
    refine k_getf (pc := 41) i_107_41 f_7_20 (rd_Mo R) rfl ?_
    refine k_iload_n (pc := 44) i_107_44 rfl ?_
    obtain ⟨g5, hF⟩ := kGx_el hF
    refine k_iald (pc := 45) i_107_45 (rd_Ma_5 R) g5 ?_
    obtain ⟨g6, hF⟩ := kGx_el hF
    refine k_iast (pc := 46) i_107_46 (rd_Ma_10 R) g6 (fun h e7 => ?_)
    replace R := kRl_sp (l := (lMa 10)) (k := a1.toNatClampNeg) (v := gp M (lMa 5) a1.toNatClampNeg) R rfl e7
    clear e7
    refine k_iinc (pc := 47) (v := a1 + 1) (lo2 := [some (.ref (A lMo)), some (.int (a1 + 1))]) i_107_47 rfl rfl rfl ?_
    refine k_goto (pc := 50) (tgt := 26) i_107_50 (by decide) ?_
    obtain rfl := Option.some.inj hF
    exact K _ R
noncomputable def F_107_13 (T : kT) (s0 : Int32) (M : kM) : Option (Unit × kM) :=
  if (gp (sp M lMo 0 s0) lMo 0) ≤ 0 then (F_107_26 T 0 (sp M lMo 0 s0)) else (some ((), sp M lMo 0 s0))
set_option maxHeartbeats 1000000 in
theorem W_107_13 {G : kG} {d : Nat} {A : kLb → Nat} {C : kCl} {P : kO → kH → Prop} {T : kT} {M : kM} {h : kH} {s0 : Int32} {b1 : Option Value} {z : (Unit × kM)} (hC : C = kRun G (d + 0)) (R : kRl A T M h) (K : (fun z : (Unit × kM) => ∀ h1, kRl A T z.2 h1 → P (.inl none) h1) z) (hF : F_107_13 T s0 M = some z) : kWP G 107 C P 13 [some (.ref (A lMo)), b1] [.int s0, .ref (A lMo)] h 0 0 := by
  unfold F_107_13 at hF
  refine k_putf (pc := 13) i_107_13 f_7_88 (rd_Mo R) (by decide +kernel) (Nat.le_of_ble_eq_true rfl) rfl rfl rfl (fun h e2 => ?_)
  replace R := kRl_sp (l := lMo) (k := 0) (v := s0) R rfl e2
  clear e2
  refine k_aload_n (pc := 16) i_107_16 rfl rfl ?_
  refine k_getf (pc := 17) i_107_17 f_7_88 (rd_Mo R) rfl ?_
  refine k_if_le (pc := 20) (tgt := 24) i_107_20 (by decide) (fun c3 => ?_) (fun c3 => ?_)
  · rw [if_pos c3] at hF
    refine k_iconst (pc := 24) (v := 0) i_107_24 (by decide) ?_
    refine k_istore_n (pc := 25) (lo2 := [some (.ref (A lMo)), some (.int 0)]) i_107_25 (Nat.le_of_ble_eq_true rfl) rfl ?_
    exact W_107_26 (d := d) hC R K hF
  · rw [if_neg c3] at hF
    obtain rfl := Option.some.inj hF
    exact k_return (pc := 23) i_107_23 rfl (K _ R)
noncomputable def F_107 (T : kT) (M : kM) : Option (Unit × kM) :=
  if (gp M lMo 7) = 0 then (F_107_13 T 0 M) else (F_107_13 T 1 M)
set_option maxHeartbeats 1000000 in
theorem D_107 {G : kG} {d : Nat} {A : kLb → Nat} {T : kT} {M : kM} {h : kH} {z : (Unit × kM)} (R : kRl A T M h) (hF : F_107 T  M = some z) : kRun G (d + 1) 107 [.ref (A lMo)] h 0 0 (kPV A T z) := by
  refine ⟨⟨rfl, Nat.le_of_ble_eq_true rfl⟩, ?_⟩
  show kWP _ _ (kRun G (d + 0)) _ 0 [some (.ref (A lMo)), none] [] _ _ _
  have K : (fun z : (Unit × kM) => ∀ h1, kRl A T z.2 h1 → kPV A T z (.inl none) h1) z := fun _ q => ⟨rfl, q⟩
  unfold F_107 at hF
  refine k_aload_n (pc := 0) i_107_0 rfl rfl ?_
  refine k_aload_n (pc := 1) i_107_1 rfl rfl ?_
  refine k_getf (pc := 2) i_107_2 f_7_102 (rd_Mo R) rfl ?_
  refine k_if_eq (pc := 5) (tgt := 12) i_107_5 (by decide) (fun c1 => ?_) (fun c1 => ?_)
  · rw [if_pos c1] at hF
    refine k_iconst (pc := 12) (v := 0) i_107_12 (by decide) ?_
    exact W_107_13 (d := d) rfl R K hF
  · rw [if_neg c1] at hF
    refine k_iconst (pc := 8) (v := 1) i_107_8 (by decide) ?_
    refine k_goto (pc := 9) (tgt := 13) i_107_9 (by decide) ?_
    exact W_107_13 (d := d) rfl R K hF
-- 108: RDModel commit
noncomputable def F_108_13 (T : kT) (s0 : Int32) (M : kM) : Option (Int32 × kM) :=
  if (gp (sp M lMo 0 s0) lMo 0) ≤ 0 then (some (gp (sp (sp (sp M lMo 0 s0) lMo 7 0) lMo 15 0) lMo 8, sp (sp (sp M lMo 0 s0) lMo 7 0) lMo 15 0)) else (some (0, sp M lMo 0 s0))
set_option maxHeartbeats 1000000 in
theorem W_108_13 {G : kG} {d : Nat} {A : kLb → Nat} {C : kCl} {P : kO → kH → Prop} {T : kT} {M : kM} {h : kH} {s0 : Int32} {z : (Int32 × kM)} (hC : C = kRun G (d + 0)) (R : kRl A T M h) (K : (fun z : (Int32 × kM) => ∀ h1, kRl A T z.2 h1 → P (.inl (some (.int z.1))) h1) z) (hF : F_108_13 T s0 M = some z) : kWP G 108 C P 13 [some (.ref (A lMo))] [.int s0, .ref (A lMo)] h 0 0 := by
  unfold F_108_13 at hF
  refine k_putf (pc := 13) i_108_13 f_7_88 (rd_Mo R) (by decide +kernel) (Nat.le_of_ble_eq_true rfl) rfl rfl rfl (fun h e2 => ?_)
  replace R := kRl_sp (l := lMo) (k := 0) (v := s0) R rfl e2
  clear e2
  refine k_aload_n (pc := 16) i_108_16 rfl rfl ?_
  refine k_getf (pc := 17) i_108_17 f_7_88 (rd_Mo R) rfl ?_
  refine k_if_le (pc := 20) (tgt := 25) i_108_20 (by decide) (fun c3 => ?_) (fun c3 => ?_)
  · rw [if_pos c3] at hF
    refine k_aload_n (pc := 25) i_108_25 rfl rfl ?_
    refine k_iconst (pc := 26) (v := 0) i_108_26 (by decide) ?_
    refine k_putf (pc := 27) i_108_27 f_7_102 (rd_Mo R) (by decide +kernel) (Nat.le_of_ble_eq_true rfl) rfl rfl rfl (fun h e4 => ?_)
    replace R := kRl_sp (l := lMo) (k := 7) (v := 0) R rfl e4
    clear e4
    refine k_aload_n (pc := 30) i_108_30 rfl rfl ?_
    refine k_iconst (pc := 31) (v := 0) i_108_31 (by decide) ?_
    refine k_putf (pc := 32) i_108_32 f_7_106 (rd_Mo R) (by decide +kernel) (Nat.le_of_ble_eq_true rfl) rfl rfl rfl (fun h e5 => ?_)
    replace R := kRl_sp (l := lMo) (k := 15) (v := 0) R rfl e5
    clear e5
    refine k_aload_n (pc := 35) i_108_35 rfl rfl ?_
    refine k_getf (pc := 36) i_108_36 f_7_117 (rd_Mo R) rfl ?_
    obtain rfl := Option.some.inj hF
    exact k_ireturn (pc := 39) i_108_39 rfl rfl (K _ R)
  · rw [if_neg c3] at hF
    refine k_iconst (pc := 23) (v := 0) i_108_23 (by decide) ?_
    obtain rfl := Option.some.inj hF
    exact k_ireturn (pc := 24) i_108_24 rfl rfl (K _ R)
noncomputable def F_108 (T : kT) (M : kM) : Option (Int32 × kM) :=
  if (gp M lMo 7) = 0 then (F_108_13 T 1 M) else (F_108_13 T 0 M)
set_option maxHeartbeats 1000000 in
theorem D_108 {G : kG} {d : Nat} {A : kLb → Nat} {T : kT} {M : kM} {h : kH} {z : (Int32 × kM)} (R : kRl A T M h) (hF : F_108 T  M = some z) : kRun G (d + 1) 108 [.ref (A lMo)] h 0 0 (kPI A T z) := by
  refine ⟨⟨rfl, Nat.le_of_ble_eq_true rfl⟩, ?_⟩
  show kWP _ _ (kRun G (d + 0)) _ 0 [some (.ref (A lMo))] [] _ _ _
  have K : (fun z : (Int32 × kM) => ∀ h1, kRl A T z.2 h1 → kPI A T z (.inl (some (.int z.1))) h1) z := fun _ q => ⟨rfl, q⟩
  unfold F_108 at hF
  refine k_aload_n (pc := 0) i_108_0 rfl rfl ?_
  refine k_aload_n (pc := 1) i_108_1 rfl rfl ?_
  refine k_getf (pc := 2) i_108_2 f_7_102 (rd_Mo R) rfl ?_
  refine k_if_eq (pc := 5) (tgt := 12) i_108_5 (by decide) (fun c1 => ?_) (fun c1 => ?_)
  · rw [if_pos c1] at hF
    refine k_iconst (pc := 12) (v := 1) i_108_12 (by decide) ?_
    exact W_108_13 (d := d) rfl R K hF
  · rw [if_neg c1] at hF
    refine k_iconst (pc := 8) (v := 0) i_108_8 (by decide) ?_
    refine k_goto (pc := 9) (tgt := 13) i_108_9 (by decide) ?_
    exact W_108_13 (d := d) rfl R K hF
-- 109: RDModel rollback
noncomputable def B_109_45 (T : kT) (a1 : Int32) (a2 : Int32) (M : kM) : Option ((Int32 × kM) ⊕ (Int32 × kM)) :=
  if 6 ≤ a2 then (some (.inr ((a1, M)))) else (kGx a2 6 (kGx a2 6 (some (.inl ((a2 + 1), sp M (lMa 4) a2.toNatClampNeg (gp M (lMa 9) a2.toNatClampNeg))))))
noncomputable def F_109_45 (T : kT) (a1 : Int32) (a2 : Int32) (M : kM) : Option (Int32 × kM) :=
  kWh (fun w : (Int32 × kM) => B_109_45 T a1 w.1 w.2) (a2, M)
theorem F_109_45_eq (T : kT) (a1 : Int32) (a2 : Int32) (M : kM) : F_109_45 T a1 a2 M = kAg (B_109_45 T a1 a2 M) (fun w => F_109_45 T a1 w.1 w.2) := by
  unfold F_109_45
  rw [kWh_eq]
set_option maxHeartbeats 1000000 in
theorem W_109_45 {G : kG} {d : Nat} {A : kLb → Nat} {C : kCl} {P : kO → kH → Prop} {T : kT} {M : kM} {h : kH} {a1 : Int32} {a2 : Int32} {z : (Int32 × kM)} (hC : C = kRun G (d + 1)) (R : kRl A T M h) (K : (fun z : (Int32 × kM) => ∀ h1, kRl A T z.2 h1 → P (.inl (some (.int z.1))) h1) z) (hF : F_109_45 T a1 a2 M = some z) : kWP G 109 C P 45 [some (.ref (A lMo)), some (.int a1), some (.int a2)] [] h 0 0 := by
  refine kWh_ind (P := (fun w : (Int32 × kM) => ∀ (h : kH), kRl A T w.2 h → kWP G 109 C P 45 [some (.ref (A lMo)), some (.int a1), some (.int w.1)] [] h 0 0)) (Q := (fun z : (Int32 × kM) => ∀ h1, kRl A T z.2 h1 → P (.inl (some (.int z.1))) h1)) hF K ?_ h R
  clear hF K R
  intro w z hF K h R
  obtain ⟨a2, M⟩ := w
  change B_109_45 T a1 a2 M = some z at hF
  change kWP G 109 C P 45 [some (.ref (A lMo)), some (.int a1), some (.int a2)] [] h 0 0
  unfold B_109_45 at hF
  refine k_iload_n (pc := 45) i_109_45 rfl ?_
  refine k_bipush (pc := 46) (v := 6) i_109_46 (by decide) ?_
  refine k_icmp_ge (pc := 48) (tgt := 69) i_109_48 (by decide) (fun c6 => ?_) (fun c6 => ?_)
  · rw [if_pos c6] at hF
    refine k_iload_n (pc := 69) i_109_69 rfl ?_
    obtain rfl := Option.some.inj hF
    exact k_ireturn (pc := 70) i_109_70 rfl rfl (K _ R)
  · rw [if_neg c6] at hF
    refine k_aload_n (pc := 51) i_109_51 rfl rfl ?_
    refine k_getf (pc := 52) i_109_52 f_7_17 (rd_Mo R) rfl ?_
    refine k_iload_n (pc := 55) i_109_55 rfl ?_
    refine k_aload_n (pc := 56) i_109_56 rfl rfl ?_
    refine k_getf (pc := 57) i_109_57 f_7_26 (rd_Mo R) rfl ?_
    refine k_iload_n (pc := 60) i_109_60 rfl ?_
    obtain ⟨g7, hF⟩ := kGx_el hF
    refine k_iald (pc := 61) i_109_61 (rd_Ma_9 R) g7 ?_
    obtain ⟨g8, hF⟩ := kGx_el hF
    refine k_iast (pc := 62) i_109_62 (rd_Ma_4 R) g8 (fun h e9 => ?_)
    replace R := kRl_sp (l := (lMa 4)) (k := a2.toNatClampNeg) (v := gp M (lMa 9) a2.toNatClampNeg) R rfl e9
    clear e9
    refine k_iinc (pc := 63) (v := a2 + 1) (lo2 := [some (.ref (A lMo)), some (.int a1), some (.int (a2 + 1))]) i_109_63 rfl rfl rfl ?_
    refine k_goto (pc := 66) (tgt := 45) i_109_66 (by decide) ?_
    obtain rfl := Option.some.inj hF
    exact K _ R
noncomputable def B_109_16 (T : kT) (a1 : Int32) (a2 : Int32) (M : kM) : Option ((Int32 × kM) ⊕ (Int32 × kM)) :=
  if 1440 ≤ a2 then (kLf (F_109_45 T a1 0 M)) else (kGx a2 1440 (kGx a2 1440 (some (.inl ((a2 + 1), sp M (lMa 5) a2.toNatClampNeg (gp M (lMa 10) a2.toNatClampNeg))))))
noncomputable def F_109_16 (T : kT) (a1 : Int32) (a2 : Int32) (M : kM) : Option (Int32 × kM) :=
  kWh (fun w : (Int32 × kM) => B_109_16 T a1 w.1 w.2) (a2, M)
theorem F_109_16_eq (T : kT) (a1 : Int32) (a2 : Int32) (M : kM) : F_109_16 T a1 a2 M = kAg (B_109_16 T a1 a2 M) (fun w => F_109_16 T a1 w.1 w.2) := by
  unfold F_109_16
  rw [kWh_eq]
set_option maxHeartbeats 1000000 in
theorem W_109_16 {G : kG} {d : Nat} {A : kLb → Nat} {C : kCl} {P : kO → kH → Prop} {T : kT} {M : kM} {h : kH} {a1 : Int32} {a2 : Int32} {z : (Int32 × kM)} (hC : C = kRun G (d + 1)) (R : kRl A T M h) (K : (fun z : (Int32 × kM) => ∀ h1, kRl A T z.2 h1 → P (.inl (some (.int z.1))) h1) z) (hF : F_109_16 T a1 a2 M = some z) : kWP G 109 C P 16 [some (.ref (A lMo)), some (.int a1), some (.int a2)] [] h 0 0 := by
  refine kWh_ind (P := (fun w : (Int32 × kM) => ∀ (h : kH), kRl A T w.2 h → kWP G 109 C P 16 [some (.ref (A lMo)), some (.int a1), some (.int w.1)] [] h 0 0)) (Q := (fun z : (Int32 × kM) => ∀ h1, kRl A T z.2 h1 → P (.inl (some (.int z.1))) h1)) hF K ?_ h R
  clear hF K R
  intro w z hF K h R
  obtain ⟨a2, M⟩ := w
  change B_109_16 T a1 a2 M = some z at hF
  change kWP G 109 C P 16 [some (.ref (A lMo)), some (.int a1), some (.int a2)] [] h 0 0
  unfold B_109_16 at hF
  refine k_iload_n (pc := 16) i_109_16 rfl ?_
  refine k_aload_n (pc := 17) i_109_17 rfl rfl ?_
  refine k_getf (pc := 18) i_109_18 f_7_20 (rd_Mo R) rfl ?_
  refine k_alen (pc := 21) (v := 1440) i_109_21 (rd_Ma_5 R) (by decide) rfl ?_
  refine k_icmp_ge (pc := 22) (tgt := 43) i_109_22 (by decide) (fun c5 => ?_) (fun c5 => ?_)
  · rw [if_pos c5] at hF
    refine k_iconst (pc := 43) (v := 0) i_109_43 (by decide) ?_
    refine k_istore_n (pc := 44) (lo2 := [some (.ref (A lMo)), some (.int a1), some (.int 0)]) i_109_44 (Nat.le_of_ble_eq_true rfl) rfl ?_
    obtain ⟨z, hG, rfl⟩ := kLf_el hF
    replace hF := hG
    clear hG
    exact W_109_45 (d := d) hC R K hF
  · rw [if_neg c5] at hF
    refine k_aload_n (pc := 25) i_109_25 rfl rfl ?_
    refine k_getf (pc := 26) i_109_26 f_7_20 (rd_Mo R) rfl ?_
    refine k_iload_n (pc := 29) i_109_29 rfl ?_
    refine k_aload_n (pc := 30) i_109_30 rfl rfl ?_
    refine k_getf (pc := 31) i_109_31 f_7_29 (rd_Mo R) rfl ?_
    refine k_iload_n (pc := 34) i_109_34 rfl ?_
    obtain ⟨g6, hF⟩ := kGx_el hF
    refine k_iald (pc := 35) i_109_35 (rd_Ma_10 R) g6 ?_
    obtain ⟨g7, hF⟩ := kGx_el hF
    refine k_iast (pc := 36) i_109_36 (rd_Ma_5 R) g7 (fun h e8 => ?_)
    replace R := kRl_sp (l := (lMa 5)) (k := a2.toNatClampNeg) (v := gp M (lMa 10) a2.toNatClampNeg) R rfl e8
    clear e8
    refine k_iinc (pc := 37) (v := a2 + 1) (lo2 := [some (.ref (A lMo)), some (.int a1), some (.int (a2 + 1))]) i_109_37 rfl rfl rfl ?_
    refine k_goto (pc := 40) (tgt := 16) i_109_40 (by decide) ?_
    obtain rfl := Option.some.inj hF
    exact K _ R
noncomputable def F_109 (T : kT) (M : kM) : Option (Int32 × kM) :=
  kBd (F_108 T  M) (fun r1 M2 => if (gp M2 lMo 0) ≤ 0 then (F_109_16 T r1 0 M2) else (some (0, M2)))
set_option maxHeartbeats 1000000 in
theorem D_109 {G : kG} {d : Nat} {A : kLb → Nat} {T : kT} {M : kM} {h : kH} {z : (Int32 × kM)} (R : kRl A T M h) (hF : F_109 T  M = some z) : kRun G (d + 2) 109 [.ref (A lMo)] h 0 0 (kPI A T z) := by
  refine ⟨⟨rfl, Nat.le_of_ble_eq_true rfl⟩, ?_⟩
  show kWP _ _ (kRun G (d + 1)) _ 0 [some (.ref (A lMo)), none, none] [] _ _ _
  have K : (fun z : (Int32 × kM) => ∀ h1, kRl A T z.2 h1 → kPI A T z (.inl (some (.int z.1))) h1) z := fun _ q => ⟨rfl, q⟩
  unfold F_109 at hF
  refine k_aload_n (pc := 0) i_109_0 rfl rfl ?_
  obtain ⟨r1, M2, q3, hF⟩ := kBd_el hF
  refine kcv_I (pc := 1) (As := [.ref (A lMo)]) (st := []) (A := A) (T := T) (r := r1) (M1 := M2) i_109_1 m_7_126 rfl rfl rfl rfl (rd_Mo R) rfl (Nat.le_of_ble_eq_true rfl) (D_108 R q3) (fun h R => ?_)
  refine k_istore_n (pc := 4) (lo2 := [some (.ref (A lMo)), some (.int r1), none]) i_109_4 (Nat.le_of_ble_eq_true rfl) rfl ?_
  refine k_aload_n (pc := 5) i_109_5 rfl rfl ?_
  refine k_getf (pc := 6) i_109_6 f_7_88 (rd_Mo R) rfl ?_
  refine k_if_le (pc := 9) (tgt := 14) i_109_9 (by decide) (fun c4 => ?_) (fun c4 => ?_)
  · rw [if_pos c4] at hF
    refine k_iconst (pc := 14) (v := 0) i_109_14 (by decide) ?_
    refine k_istore_n (pc := 15) (lo2 := [some (.ref (A lMo)), some (.int r1), some (.int 0)]) i_109_15 (Nat.le_of_ble_eq_true rfl) rfl ?_
    exact W_109_16 (d := d) rfl R K hF
  · rw [if_neg c4] at hF
    refine k_iconst (pc := 12) (v := 0) i_109_12 (by decide) ?_
    obtain rfl := Option.some.inj hF
    exact k_ireturn (pc := 13) i_109_13 rfl rfl (K _ R)
-- 110: RDModel cell
noncomputable def F_110_44 (T : kT) (a1 : Int32) (a2 : Int32) (a3 : Int32) (s0 : Int32) (M : kM) : Option (Int32 × kM) :=
  kBd (F_96 T s0 M) (fun r5 M6 => if r5 = 0 then (some (0, M6)) else (if a2 = (-1) then (kGx a1 6 (some (gp M6 (lMa 4) a1.toNatClampNeg, M6))) else (kBd (F_99 T a1 a2 a3 M6) (fun r10 M11 => kGx r10 1440 (some (gp M11 (lMa 5) r10.toNatClampNeg, M11))))))
set_option maxHeartbeats 1000000 in
theorem W_110_44 {G : kG} {d : Nat} {A : kLb → Nat} {C : kCl} {P : kO → kH → Prop} {T : kT} {M : kM} {h : kH} {a1 : Int32} {a2 : Int32} {a3 : Int32} {s0 : Int32} {z : (Int32 × kM)} (hC : C = kRun G (d + 3)) (R : kRl A T M h) (K : (fun z : (Int32 × kM) => ∀ h1, kRl A T z.2 h1 → P (.inl (some (.int z.1))) h1) z) (hF : F_110_44 T a1 a2 a3 s0 M = some z) : kWP G 110 C P 44 [some (.ref (A lMo)), some (.int a1), some (.int a2), some (.int a3)] [.int s0, .ref (A lMo)] h 0 0 := by
  unfold F_110_44 at hF
  obtain ⟨r5, M6, q7, hF⟩ := kBd_el hF
  refine kcv_I (pc := 44) (As := [.ref (A lMo), .int s0]) (st := []) (A := A) (T := T) (r := r5) (M1 := M6) i_110_44 m_7_113 rfl rfl rfl rfl (rd_Mo R) rfl (Nat.le_of_ble_eq_true rfl) (hC ▸ D_96 R q7) (fun h R => ?_)
  refine k_if_ne (pc := 47) (tgt := 52) i_110_47 (by decide) (fun c8 => ?_) (fun c8 => ?_)
  · rw [if_neg c8] at hF
    refine k_iload_n (pc := 52) i_110_52 rfl ?_
    refine k_iconst (pc := 53) (v := (-1)) i_110_53 (by decide) ?_
    refine k_icmp_ne (pc := 54) (tgt := 66) i_110_54 (by decide) (fun c9 => ?_) (fun c9 => ?_)
    · rw [if_neg c9] at hF
      refine k_aload_n (pc := 66) i_110_66 rfl rfl ?_
      refine k_getf (pc := 67) i_110_67 f_7_20 (rd_Mo R) rfl ?_
      refine k_iload_n (pc := 70) i_110_70 rfl ?_
      refine k_iload_n (pc := 71) i_110_71 rfl ?_
      refine k_iload_n (pc := 72) i_110_72 rfl ?_
      obtain ⟨r10, M11, q12, hF⟩ := kBd_el hF
      refine kcs_I (pc := 73) (As := [.int a1, .int a2, .int a3]) (st := [.ref (A (lMa 5))]) (A := A) (T := T) (r := r10) (M1 := M11) i_110_73 m_7_120 rfl rfl rfl (Nat.le_of_ble_eq_true rfl) (hC ▸ D_99 R q12) (fun h R => ?_)
      obtain ⟨g13, hF⟩ := kGx_el hF
      refine k_iald (pc := 76) i_110_76 (rd_Ma_5 R) g13 ?_
      obtain rfl := Option.some.inj hF
      exact k_ireturn (pc := 77) i_110_77 rfl rfl (K _ R)
    · rw [if_pos c9] at hF
      refine k_aload_n (pc := 57) i_110_57 rfl rfl ?_
      refine k_getf (pc := 58) i_110_58 f_7_17 (rd_Mo R) rfl ?_
      refine k_iload_n (pc := 61) i_110_61 rfl ?_
      obtain ⟨g14, hF⟩ := kGx_el hF
      refine k_iald (pc := 62) i_110_62 (rd_Ma_4 R) g14 ?_
      refine k_goto (pc := 63) (tgt := 77) i_110_63 (by decide) ?_
      obtain rfl := Option.some.inj hF
      exact k_ireturn (pc := 77) i_110_77 rfl rfl (K _ R)
  · rw [if_pos c8] at hF
    refine k_iconst (pc := 50) (v := 0) i_110_50 (by decide) ?_
    obtain rfl := Option.some.inj hF
    exact k_ireturn (pc := 51) i_110_51 rfl rfl (K _ R)
noncomputable def F_110 (T : kT) (a1 : Int32) (a2 : Int32) (a3 : Int32) (M : kM) : Option (Int32 × kM) :=
  kBd (F_97 T a1 M) (fun r1 M2 => if r1 = 0 then (F_110_44 T a1 a2 a3 0 M2) else (if a2 = (-1) then (F_110_44 T a1 a2 a3 1 M2) else (kGx a1 6 (kBd (F_95 T a2 0 ((gp M2 (lMa 4) a1.toNatClampNeg) - 1) M2) (fun r7 M8 => if r7 = 0 then (F_110_44 T a1 a2 a3 0 M8) else (kBd (F_98 T a1 a3 M8) (fun r11 M12 => if r11 = 0 then (F_110_44 T a1 a2 a3 0 M12) else (F_110_44 T a1 a2 a3 1 M12))))))))
set_option maxHeartbeats 1000000 in
theorem D_110 {G : kG} {d : Nat} {A : kLb → Nat} {T : kT} {M : kM} {h : kH} {a1 : Int32} {a2 : Int32} {a3 : Int32} {z : (Int32 × kM)} (R : kRl A T M h) (hF : F_110 T a1 a2 a3 M = some z) : kRun G (d + 4) 110 [.ref (A lMo), .int a1, .int a2, .int a3] h 0 0 (kPI A T z) := by
  refine ⟨⟨rfl, Nat.le_of_ble_eq_true rfl⟩, ?_⟩
  show kWP _ _ (kRun G (d + 3)) _ 0 [some (.ref (A lMo)), some (.int a1), some (.int a2), some (.int a3)] [] _ _ _
  have K : (fun z : (Int32 × kM) => ∀ h1, kRl A T z.2 h1 → kPI A T z (.inl (some (.int z.1))) h1) z := fun _ q => ⟨rfl, q⟩
  unfold F_110 at hF
  refine k_aload_n (pc := 0) i_110_0 rfl rfl ?_
  refine k_aload_n (pc := 1) i_110_1 rfl rfl ?_
  refine k_iload_n (pc := 2) i_110_2 rfl ?_
  obtain ⟨r1, M2, q3, hF⟩ := kBd_el hF
  refine kcv_I (pc := 3) (As := [.ref (A lMo), .int a1]) (st := [.ref (A lMo)]) (A := A) (T := T) (r := r1) (M1 := M2) i_110_3 m_7_98 rfl rfl rfl rfl (rd_Mo R) rfl (Nat.le_of_ble_eq_true rfl) (D_97 R q3) (fun h R => ?_)
  refine k_if_eq (pc := 6) (tgt := 43) i_110_6 (by decide) (fun c4 => ?_) (fun c4 => ?_)
  · rw [if_pos c4] at hF
    refine k_iconst (pc := 43) (v := 0) i_110_43 (by decide) ?_
    exact W_110_44 (d := d) rfl R K hF
  · rw [if_neg c4] at hF
    refine k_iload_n (pc := 9) i_110_9 rfl ?_
    refine k_iconst (pc := 10) (v := (-1)) i_110_10 (by decide) ?_
    refine k_icmp_eq (pc := 11) (tgt := 39) i_110_11 (by decide) (fun c5 => ?_) (fun c5 => ?_)
    · rw [if_pos c5] at hF
      refine k_iconst (pc := 39) (v := 1) i_110_39 (by decide) ?_
      refine k_goto (pc := 40) (tgt := 44) i_110_40 (by decide) ?_
      exact W_110_44 (d := d) rfl R K hF
    · rw [if_neg c5] at hF
      refine k_iload_n (pc := 14) i_110_14 rfl ?_
      refine k_iconst (pc := 15) (v := 0) i_110_15 (by decide) ?_
      refine k_aload_n (pc := 16) i_110_16 rfl rfl ?_
      refine k_getf (pc := 17) i_110_17 f_7_17 (rd_Mo R) rfl ?_
      refine k_iload_n (pc := 20) i_110_20 rfl ?_
      obtain ⟨g6, hF⟩ := kGx_el hF
      refine k_iald (pc := 21) i_110_21 (rd_Ma_4 R) g6 ?_
      refine k_iconst (pc := 22) (v := 1) i_110_22 (by decide) ?_
      refine k_isub (pc := 23) i_110_23 ?_
      obtain ⟨r7, M8, q9, hF⟩ := kBd_el hF
      refine kcs_I (pc := 24) (As := [.int a2, .int 0, .int ((gp M2 (lMa 4) a1.toNatClampNeg) - 1)]) (st := [.ref (A lMo)]) (A := A) (T := T) (r := r7) (M1 := M8) i_110_24 m_7_94 rfl rfl rfl (Nat.le_of_ble_eq_true rfl) (D_95 R q9) (fun h R => ?_)
      refine k_if_eq (pc := 27) (tgt := 43) i_110_27 (by decide) (fun c10 => ?_) (fun c10 => ?_)
      · rw [if_pos c10] at hF
        refine k_iconst (pc := 43) (v := 0) i_110_43 (by decide) ?_
        exact W_110_44 (d := d) rfl R K hF
      · rw [if_neg c10] at hF
        refine k_aload_n (pc := 30) i_110_30 rfl rfl ?_
        refine k_iload_n (pc := 31) i_110_31 rfl ?_
        refine k_iload_n (pc := 32) i_110_32 rfl ?_
        obtain ⟨r11, M12, q13, hF⟩ := kBd_el hF
        refine kcv_I (pc := 33) (As := [.ref (A lMo), .int a1, .int a3]) (st := [.ref (A lMo)]) (A := A) (T := T) (r := r11) (M1 := M12) i_110_33 m_7_109 rfl rfl rfl rfl (rd_Mo R) rfl (Nat.le_of_ble_eq_true rfl) (D_98 R q13) (fun h R => ?_)
        refine k_if_eq (pc := 36) (tgt := 43) i_110_36 (by decide) (fun c14 => ?_) (fun c14 => ?_)
        · rw [if_pos c14] at hF
          refine k_iconst (pc := 43) (v := 0) i_110_43 (by decide) ?_
          exact W_110_44 (d := d) rfl R K hF
        · rw [if_neg c14] at hF
          refine k_iconst (pc := 39) (v := 1) i_110_39 (by decide) ?_
          refine k_goto (pc := 40) (tgt := 44) i_110_40 (by decide) ?_
          exact W_110_44 (d := d) rfl R K hF
-- 111: RDModel feed
noncomputable def F_111_15 (T : kT) (a1 : Int32) (s0 : Int32) (M : kM) : Option (Int32 × kM) :=
  if (gp (sp M lMo 0 s0) lMo 0) ≤ 0 then (kGx (gp (sp M lMo 0 s0) lMo 11) 60 (some (gp (sp (sp (sp M lMo 0 s0) (lMa 12) (gp (sp M lMo 0 s0) lMo 11).toNatClampNeg a1) lMo 11 ((gp (sp (sp M lMo 0 s0) (lMa 12) (gp (sp M lMo 0 s0) lMo 11).toNatClampNeg a1) lMo 11) + 1)) lMo 11, sp (sp (sp M lMo 0 s0) (lMa 12) (gp (sp M lMo 0 s0) lMo 11).toNatClampNeg a1) lMo 11 ((gp (sp (sp M lMo 0 s0) (lMa 12) (gp (sp M lMo 0 s0) lMo 11).toNatClampNeg a1) lMo 11) + 1)))) else (some (0, sp M lMo 0 s0))
set_option maxHeartbeats 1000000 in
theorem W_111_15 {G : kG} {d : Nat} {A : kLb → Nat} {C : kCl} {P : kO → kH → Prop} {T : kT} {M : kM} {h : kH} {a1 : Int32} {s0 : Int32} {z : (Int32 × kM)} (hC : C = kRun G (d + 0)) (R : kRl A T M h) (K : (fun z : (Int32 × kM) => ∀ h1, kRl A T z.2 h1 → P (.inl (some (.int z.1))) h1) z) (hF : F_111_15 T a1 s0 M = some z) : kWP G 111 C P 15 [some (.ref (A lMo)), some (.int a1)] [.int s0, .ref (A lMo)] h 0 0 := by
  unfold F_111_15 at hF
  refine k_putf (pc := 15) i_111_15 f_7_88 (rd_Mo R) (by decide +kernel) (Nat.le_of_ble_eq_true rfl) rfl rfl rfl (fun h e2 => ?_)
  replace R := kRl_sp (l := lMo) (k := 0) (v := s0) R rfl e2
  clear e2
  refine k_aload_n (pc := 18) i_111_18 rfl rfl ?_
  refine k_getf (pc := 19) i_111_19 f_7_88 (rd_Mo R) rfl ?_
  refine k_if_le (pc := 22) (tgt := 27) i_111_22 (by decide) (fun c3 => ?_) (fun c3 => ?_)
  · rw [if_pos c3] at hF
    refine k_aload_n (pc := 27) i_111_27 rfl rfl ?_
    refine k_getf (pc := 28) i_111_28 f_7_32 (rd_Mo R) rfl ?_
    refine k_aload_n (pc := 31) i_111_31 rfl rfl ?_
    refine k_getf (pc := 32) i_111_32 f_7_130 (rd_Mo R) rfl ?_
    refine k_iload_n (pc := 35) i_111_35 rfl ?_
    obtain ⟨g4, hF⟩ := kGx_el hF
    refine k_iast (pc := 36) i_111_36 (rd_Ma_12 R) g4 (fun h e5 => ?_)
    replace R := kRl_sp (l := (lMa 12)) (k := (gp (sp M lMo 0 s0) lMo 11).toNatClampNeg) (v := a1) R rfl e5
    clear e5
    refine k_aload_n (pc := 37) i_111_37 rfl rfl ?_
    refine k_dup (pc := 38) i_111_38 rfl ?_
    refine k_getf (pc := 39) i_111_39 f_7_130 (rd_Mo R) rfl ?_
    refine k_iconst (pc := 42) (v := 1) i_111_42 (by decide) ?_
    refine k_iadd (pc := 43) i_111_43 ?_
    refine k_putf (pc := 44) i_111_44 f_7_130 (rd_Mo R) (by decide +kernel) (Nat.le_of_ble_eq_true rfl) rfl rfl rfl (fun h e6 => ?_)
    replace R := kRl_sp (l := lMo) (k := 11) (v := (gp (sp (sp M lMo 0 s0) (lMa 12) (gp (sp M lMo 0 s0) lMo 11).toNatClampNeg a1) lMo 11) + 1) R rfl e6
    clear e6
    refine k_aload_n (pc := 47) i_111_47 rfl rfl ?_
    refine k_getf (pc := 48) i_111_48 f_7_130 (rd_Mo R) rfl ?_
    obtain rfl := Option.some.inj hF
    exact k_ireturn (pc := 51) i_111_51 rfl rfl (K _ R)
  · rw [if_neg c3] at hF
    refine k_iconst (pc := 25) (v := 0) i_111_25 (by decide) ?_
    obtain rfl := Option.some.inj hF
    exact k_ireturn (pc := 26) i_111_26 rfl rfl (K _ R)
noncomputable def F_111 (T : kT) (a1 : Int32) (M : kM) : Option (Int32 × kM) :=
  if (gp M lMo 11) = 60 then (F_111_15 T a1 1 M) else (F_111_15 T a1 0 M)
set_option maxHeartbeats 1000000 in
theorem D_111 {G : kG} {d : Nat} {A : kLb → Nat} {T : kT} {M : kM} {h : kH} {a1 : Int32} {z : (Int32 × kM)} (R : kRl A T M h) (hF : F_111 T a1 M = some z) : kRun G (d + 1) 111 [.ref (A lMo), .int a1] h 0 0 (kPI A T z) := by
  refine ⟨⟨rfl, Nat.le_of_ble_eq_true rfl⟩, ?_⟩
  show kWP _ _ (kRun G (d + 0)) _ 0 [some (.ref (A lMo)), some (.int a1)] [] _ _ _
  have K : (fun z : (Int32 × kM) => ∀ h1, kRl A T z.2 h1 → kPI A T z (.inl (some (.int z.1))) h1) z := fun _ q => ⟨rfl, q⟩
  unfold F_111 at hF
  refine k_aload_n (pc := 0) i_111_0 rfl rfl ?_
  refine k_aload_n (pc := 1) i_111_1 rfl rfl ?_
  refine k_getf (pc := 2) i_111_2 f_7_130 (rd_Mo R) rfl ?_
  refine k_bipush (pc := 5) (v := 60) i_111_5 (by decide) ?_
  refine k_icmp_ne (pc := 7) (tgt := 14) i_111_7 (by decide) (fun c1 => ?_) (fun c1 => ?_)
  · rw [if_neg c1] at hF
    refine k_iconst (pc := 14) (v := 0) i_111_14 (by decide) ?_
    exact W_111_15 (d := d) rfl R K hF
  · rw [if_pos c1] at hF
    refine k_iconst (pc := 10) (v := 1) i_111_10 (by decide) ?_
    refine k_goto (pc := 11) (tgt := 15) i_111_11 (by decide) ?_
    exact W_111_15 (d := d) rfl R K hF
-- 112: RDModel fails
noncomputable def F_112 (T : kT) (a1 : Int32) (M : kM) : Option (Unit × kM) :=
  if 0 ≤ (gp M lMo 23) then (some ((), M)) else (some ((), sp M lMo 23 a1))
set_option maxHeartbeats 1000000 in
theorem D_112 {G : kG} {d : Nat} {A : kLb → Nat} {T : kT} {M : kM} {h : kH} {a1 : Int32} {z : (Unit × kM)} (R : kRl A T M h) (hF : F_112 T a1 M = some z) : kRun G (d + 1) 112 [.ref (A lMo), .int a1] h 0 0 (kPV A T z) := by
  refine ⟨⟨rfl, Nat.le_of_ble_eq_true rfl⟩, ?_⟩
  show kWP _ _ (kRun G (d + 0)) _ 0 [some (.ref (A lMo)), some (.int a1)] [] _ _ _
  have K : (fun z : (Unit × kM) => ∀ h1, kRl A T z.2 h1 → kPV A T z (.inl none) h1) z := fun _ q => ⟨rfl, q⟩
  unfold F_112 at hF
  refine k_aload_n (pc := 0) i_112_0 rfl rfl ?_
  refine k_getf (pc := 1) i_112_1 f_7_133 (rd_Mo R) rfl ?_
  refine k_if_ge (pc := 4) (tgt := 12) i_112_4 (by decide) (fun c1 => ?_) (fun c1 => ?_)
  · rw [if_pos c1] at hF
    obtain rfl := Option.some.inj hF
    exact k_return (pc := 12) i_112_12 rfl (K _ R)
  · rw [if_neg c1] at hF
    refine k_aload_n (pc := 7) i_112_7 rfl rfl ?_
    refine k_iload_n (pc := 8) i_112_8 rfl ?_
    refine k_putf (pc := 9) i_112_9 f_7_133 (rd_Mo R) (by decide +kernel) (Nat.le_of_ble_eq_true rfl) rfl rfl rfl (fun h e2 => ?_)
    replace R := kRl_sp (l := lMo) (k := 23) (v := a1) R rfl e2
    clear e2
    obtain rfl := Option.some.inj hF
    exact k_return (pc := 12) i_112_12 rfl (K _ R)
-- 113: RDModel number
noncomputable def F_113_54 (T : kT) (M : kM) : Option (Int32 × kM) :=
  if (gp M lMo 23) < 0 then (kGx ((gp (sp M lMo 22 ((gp M lMo 22) + 1)) lMo 22) - 1) 60 (some (gp (sp M lMo 22 ((gp M lMo 22) + 1)) (lMa 12) ((gp (sp M lMo 22 ((gp M lMo 22) + 1)) lMo 22) - 1).toNatClampNeg, sp M lMo 22 ((gp M lMo 22) + 1)))) else (some (0, M))
set_option maxHeartbeats 1000000 in
theorem W_113_54 {G : kG} {d : Nat} {A : kLb → Nat} {C : kCl} {P : kO → kH → Prop} {T : kT} {M : kM} {h : kH} {b1 b2 : Option Value} {z : (Int32 × kM)} (hC : C = kRun G (d + 1)) (R : kRl A T M h) (K : (fun z : (Int32 × kM) => ∀ h1, kRl A T z.2 h1 → P (.inl (some (.int z.1))) h1) z) (hF : F_113_54 T  M = some z) : kWP G 113 C P 54 [some (.ref (A lMo)), b1, b2] [] h 0 0 := by
  unfold F_113_54 at hF
  refine k_aload_n (pc := 54) i_113_54 rfl rfl ?_
  refine k_getf (pc := 55) i_113_55 f_7_133 (rd_Mo R) rfl ?_
  refine k_if_lt (pc := 58) (tgt := 63) i_113_58 (by decide) (fun c6 => ?_) (fun c6 => ?_)
  · rw [if_pos c6] at hF
    refine k_aload_n (pc := 63) i_113_63 rfl rfl ?_
    refine k_dup (pc := 64) i_113_64 rfl ?_
    refine k_getf (pc := 65) i_113_65 f_7_136 (rd_Mo R) rfl ?_
    refine k_iconst (pc := 68) (v := 1) i_113_68 (by decide) ?_
    refine k_iadd (pc := 69) i_113_69 ?_
    refine k_putf (pc := 70) i_113_70 f_7_136 (rd_Mo R) (by decide +kernel) (Nat.le_of_ble_eq_true rfl) rfl rfl rfl (fun h e7 => ?_)
    replace R := kRl_sp (l := lMo) (k := 22) (v := (gp M lMo 22) + 1) R rfl e7
    clear e7
    refine k_aload_n (pc := 73) i_113_73 rfl rfl ?_
    refine k_getf (pc := 74) i_113_74 f_7_32 (rd_Mo R) rfl ?_
    refine k_aload_n (pc := 77) i_113_77 rfl rfl ?_
    refine k_getf (pc := 78) i_113_78 f_7_136 (rd_Mo R) rfl ?_
    refine k_iconst (pc := 81) (v := 1) i_113_81 (by decide) ?_
    refine k_isub (pc := 82) i_113_82 ?_
    obtain ⟨g8, hF⟩ := kGx_el hF
    refine k_iald (pc := 83) i_113_83 (rd_Ma_12 R) g8 ?_
    obtain rfl := Option.some.inj hF
    exact k_ireturn (pc := 84) i_113_84 rfl rfl (K _ R)
  · rw [if_neg c6] at hF
    refine k_iconst (pc := 61) (v := 0) i_113_61 (by decide) ?_
    obtain rfl := Option.some.inj hF
    exact k_ireturn (pc := 62) i_113_62 rfl rfl (K _ R)
noncomputable def F_113_51 (T : kT) (s0 : Int32) (M : kM) : Option (Int32 × kM) :=
  kBd (F_112 T s0 M) (fun r3 M4 => F_113_54 T  M4)
set_option maxHeartbeats 1000000 in
theorem W_113_51 {G : kG} {d : Nat} {A : kLb → Nat} {C : kCl} {P : kO → kH → Prop} {T : kT} {M : kM} {h : kH} {s0 : Int32} {b1 b2 : Option Value} {z : (Int32 × kM)} (hC : C = kRun G (d + 1)) (R : kRl A T M h) (K : (fun z : (Int32 × kM) => ∀ h1, kRl A T z.2 h1 → P (.inl (some (.int z.1))) h1) z) (hF : F_113_51 T s0 M = some z) : kWP G 113 C P 51 [some (.ref (A lMo)), b1, b2] [.int s0, .ref (A lMo)] h 0 0 := by
  unfold F_113_51 at hF
  obtain ⟨r3, M4, q5, hF⟩ := kBd_el hF
  refine kcv_V (pc := 51) (As := [.ref (A lMo), .int s0]) (st := []) (A := A) (T := T) (r := r3) (M1 := M4) i_113_51 m_7_139 rfl rfl rfl rfl (rd_Mo R) rfl (Nat.le_of_ble_eq_true rfl) (hC ▸ D_112 R q5) (fun h R => ?_)
  exact W_113_54 (d := d) hC R K hF
noncomputable def F_113_28 (T : kT) (M : kM) : Option (Int32 × kM) :=
  if (gp M lMo 11) ≤ (gp M lMo 22) then (F_113_51 T (gp M lMo 11) M) else (F_113_51 T (gp M lMo 22) M)
set_option maxHeartbeats 1000000 in
theorem W_113_28 {G : kG} {d : Nat} {A : kLb → Nat} {C : kCl} {P : kO → kH → Prop} {T : kT} {M : kM} {h : kH} {b1 b2 : Option Value} {z : (Int32 × kM)} (hC : C = kRun G (d + 1)) (R : kRl A T M h) (K : (fun z : (Int32 × kM) => ∀ h1, kRl A T z.2 h1 → P (.inl (some (.int z.1))) h1) z) (hF : F_113_28 T  M = some z) : kWP G 113 C P 28 [some (.ref (A lMo)), b1, b2] [] h 0 0 := by
  unfold F_113_28 at hF
  refine k_aload_n (pc := 28) i_113_28 rfl rfl ?_
  refine k_aload_n (pc := 29) i_113_29 rfl rfl ?_
  refine k_getf (pc := 30) i_113_30 f_7_136 (rd_Mo R) rfl ?_
  refine k_aload_n (pc := 33) i_113_33 rfl rfl ?_
  refine k_getf (pc := 34) i_113_34 f_7_130 (rd_Mo R) rfl ?_
  refine k_icmp_ge (pc := 37) (tgt := 47) i_113_37 (by decide) (fun c2 => ?_) (fun c2 => ?_)
  · rw [if_pos c2] at hF
    refine k_aload_n (pc := 47) i_113_47 rfl rfl ?_
    refine k_getf (pc := 48) i_113_48 f_7_130 (rd_Mo R) rfl ?_
    exact W_113_51 (d := d) hC R K hF
  · rw [if_neg c2] at hF
    refine k_aload_n (pc := 40) i_113_40 rfl rfl ?_
    refine k_getf (pc := 41) i_113_41 f_7_136 (rd_Mo R) rfl ?_
    refine k_goto (pc := 44) (tgt := 51) i_113_44 (by decide) ?_
    exact W_113_51 (d := d) hC R K hF
noncomputable def F_113 (T : kT) (a1 : Int32) (a2 : Int32) (M : kM) : Option (Int32 × kM) :=
  if (gp M lMo 11) ≤ (gp M lMo 22) then (F_113_28 T  M) else (kGx (gp M lMo 22) 60 (kBd (F_95 T (gp M (lMa 12) (gp M lMo 22).toNatClampNeg) a1 a2 M) (fun r3 M4 => if r3 = 0 then (F_113_28 T  M4) else (F_113_54 T  M4))))
set_option maxHeartbeats 1000000 in
theorem D_113 {G : kG} {d : Nat} {A : kLb → Nat} {T : kT} {M : kM} {h : kH} {a1 : Int32} {a2 : Int32} {z : (Int32 × kM)} (R : kRl A T M h) (hF : F_113 T a1 a2 M = some z) : kRun G (d + 2) 113 [.ref (A lMo), .int a1, .int a2] h 0 0 (kPI A T z) := by
  refine ⟨⟨rfl, Nat.le_of_ble_eq_true rfl⟩, ?_⟩
  show kWP _ _ (kRun G (d + 1)) _ 0 [some (.ref (A lMo)), some (.int a1), some (.int a2)] [] _ _ _
  have K : (fun z : (Int32 × kM) => ∀ h1, kRl A T z.2 h1 → kPI A T z (.inl (some (.int z.1))) h1) z := fun _ q => ⟨rfl, q⟩
  unfold F_113 at hF
  refine k_aload_n (pc := 0) i_113_0 rfl rfl ?_
  refine k_getf (pc := 1) i_113_1 f_7_136 (rd_Mo R) rfl ?_
  refine k_aload_n (pc := 4) i_113_4 rfl rfl ?_
  refine k_getf (pc := 5) i_113_5 f_7_130 (rd_Mo R) rfl ?_
  refine k_icmp_ge (pc := 8) (tgt := 28) i_113_8 (by decide) (fun c1 => ?_) (fun c1 => ?_)
  · rw [if_pos c1] at hF
    exact W_113_28 (d := d) rfl R K hF
  · rw [if_neg c1] at hF
    refine k_aload_n (pc := 11) i_113_11 rfl rfl ?_
    refine k_getf (pc := 12) i_113_12 f_7_32 (rd_Mo R) rfl ?_
    refine k_aload_n (pc := 15) i_113_15 rfl rfl ?_
    refine k_getf (pc := 16) i_113_16 f_7_136 (rd_Mo R) rfl ?_
    obtain ⟨g2, hF⟩ := kGx_el hF
    refine k_iald (pc := 19) i_113_19 (rd_Ma_12 R) g2 ?_
    refine k_iload_n (pc := 20) i_113_20 rfl ?_
    refine k_iload_n (pc := 21) i_113_21 rfl ?_
    obtain ⟨r3, M4, q5, hF⟩ := kBd_el hF
    refine kcs_I (pc := 22) (As := [.int (gp M (lMa 12) (gp M lMo 22).toNatClampNeg), .int a1, .int a2]) (st := []) (A := A) (T := T) (r := r3) (M1 := M4) i_113_22 m_7_94 rfl rfl rfl (Nat.le_of_ble_eq_true rfl) (D_95 R q5) (fun h R => ?_)
    refine k_if_ne (pc := 25) (tgt := 54) i_113_25 (by decide) (fun c6 => ?_) (fun c6 => ?_)
    · rw [if_neg c6] at hF
      exact W_113_54 (d := d) rfl R K hF
    · rw [if_pos c6] at hF
      exact W_113_28 (d := d) rfl R K hF
-- 114: RDModel any
noncomputable def F_114 (T : kT) (M : kM) : Option (Int32 × kM) :=
  kBd (F_113 T (-2147483648) 2147483647 M) (fun r1 M2 => some (r1, M2))
set_option maxHeartbeats 1000000 in
theorem D_114 {G : kG} {d : Nat} {A : kLb → Nat} {T : kT} {M : kM} {h : kH} {z : (Int32 × kM)} (R : kRl A T M h) (hF : F_114 T  M = some z) : kRun G (d + 3) 114 [.ref (A lMo)] h 0 0 (kPI A T z) := by
  refine ⟨⟨rfl, Nat.le_of_ble_eq_true rfl⟩, ?_⟩
  show kWP _ _ (kRun G (d + 2)) _ 0 [some (.ref (A lMo))] [] _ _ _
  have K : (fun z : (Int32 × kM) => ∀ h1, kRl A T z.2 h1 → kPI A T z (.inl (some (.int z.1))) h1) z := fun _ q => ⟨rfl, q⟩
  unfold F_114 at hF
  refine k_aload_n (pc := 0) i_114_0 rfl rfl ?_
  refine k_ldc (pc := 1) (v := (-2147483648)) i_114_1 c_7_143 ?_
  refine k_ldc (pc := 3) (v := 2147483647) i_114_3 c_7_144 ?_
  obtain ⟨r1, M2, q3, hF⟩ := kBd_el hF
  refine kcv_I (pc := 5) (As := [.ref (A lMo), .int (-2147483648), .int 2147483647]) (st := []) (A := A) (T := T) (r := r1) (M1 := M2) i_114_5 m_7_145 rfl rfl rfl rfl (rd_Mo R) rfl (Nat.le_of_ble_eq_true rfl) (D_113 R q3) (fun h R => ?_)
  obtain rfl := Option.some.inj hF
  exact k_ireturn (pc := 8) i_114_8 rfl rfl (K _ R)
