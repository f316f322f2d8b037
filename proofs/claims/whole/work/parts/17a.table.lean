-- 71: RD$Table hasColumn
noncomputable def F_71 (T : kT) (a0 : Nat) (a1 : Int32) (M : kM) : Option (Int32 × kM) :=
  if a1 < 0 then (some (0, M)) else (kGd (kLv T (lTb a0)) (if (gp M (lTb a0) 0) ≤ a1 then (some (0, M)) else (some (1, M))))
set_option maxHeartbeats 1000000 in
theorem D_71 {G : kG} {d : Nat} {A : kLb → Nat} {T : kT} {M : kM} {h : kH} {a0 : Nat} {a1 : Int32} {z : (Int32 × kM)} (R : kRl A T M h) (hF : F_71 T a0 a1 M = some z) : kRun G (d + 1) 71 [.ref (A (lTb a0)), .int a1] h 0 0 (kPI A T z) := by
  refine ⟨⟨rfl, Nat.le_of_ble_eq_true rfl⟩, ?_⟩
  show kWP _ _ (kRun G (d + 0)) _ 0 [some (.ref (A (lTb a0))), some (.int a1)] [] _ _ _
  have K : (fun z : (Int32 × kM) => ∀ h1, kRl A T z.2 h1 → kPI A T z (.inl (some (.int z.1))) h1) z := fun _ q => ⟨rfl, q⟩
  unfold F_71 at hF
  refine k_iload_n (pc := 0) i_71_0 rfl ?_
  refine k_if_lt (pc := 1) (tgt := 16) i_71_1 (by decide) (fun c1 => ?_) (fun c1 => ?_)
  · rw [if_pos c1] at hF
    refine k_iconst (pc := 16) (v := 0) i_71_16 (by decide) ?_
    obtain rfl := Option.some.inj hF
    exact k_ireturn (pc := 17) i_71_17 rfl rfl (K _ R)
  · rw [if_neg c1] at hF
    refine k_iload_n (pc := 4) i_71_4 rfl ?_
    refine k_aload_n (pc := 5) i_71_5 rfl rfl ?_
    obtain ⟨g2, hF⟩ := kGd_el hF
    refine k_getf (pc := 6) i_71_6 f_4_9 (rd_Tb (i := a0) R g2) rfl ?_
    refine k_icmp_ge (pc := 9) (tgt := 16) i_71_9 (by decide) (fun c3 => ?_) (fun c3 => ?_)
    · rw [if_pos c3] at hF
      refine k_iconst (pc := 16) (v := 0) i_71_16 (by decide) ?_
      obtain rfl := Option.some.inj hF
      exact k_ireturn (pc := 17) i_71_17 rfl rfl (K _ R)
    · rw [if_neg c3] at hF
      refine k_iconst (pc := 12) (v := 1) i_71_12 (by decide) ?_
      refine k_goto (pc := 13) (tgt := 17) i_71_13 (by decide) ?_
      obtain rfl := Option.some.inj hF
      exact k_ireturn (pc := 17) i_71_17 rfl rfl (K _ R)
-- 72: RD$Table hasRow
noncomputable def F_72 (T : kT) (a0 : Nat) (a1 : Int32) (M : kM) : Option (Int32 × kM) :=
  if a1 < 0 then (some (0, M)) else (kGd (kLv T (lTb a0)) (if (gp M (lTb a0) 4) ≤ a1 then (some (0, M)) else (some (1, M))))
set_option maxHeartbeats 1000000 in
theorem D_72 {G : kG} {d : Nat} {A : kLb → Nat} {T : kT} {M : kM} {h : kH} {a0 : Nat} {a1 : Int32} {z : (Int32 × kM)} (R : kRl A T M h) (hF : F_72 T a0 a1 M = some z) : kRun G (d + 1) 72 [.ref (A (lTb a0)), .int a1] h 0 0 (kPI A T z) := by
  refine ⟨⟨rfl, Nat.le_of_ble_eq_true rfl⟩, ?_⟩
  show kWP _ _ (kRun G (d + 0)) _ 0 [some (.ref (A (lTb a0))), some (.int a1)] [] _ _ _
  have K : (fun z : (Int32 × kM) => ∀ h1, kRl A T z.2 h1 → kPI A T z (.inl (some (.int z.1))) h1) z := fun _ q => ⟨rfl, q⟩
  unfold F_72 at hF
  refine k_iload_n (pc := 0) i_72_0 rfl ?_
  refine k_if_lt (pc := 1) (tgt := 16) i_72_1 (by decide) (fun c1 => ?_) (fun c1 => ?_)
  · rw [if_pos c1] at hF
    refine k_iconst (pc := 16) (v := 0) i_72_16 (by decide) ?_
    obtain rfl := Option.some.inj hF
    exact k_ireturn (pc := 17) i_72_17 rfl rfl (K _ R)
  · rw [if_neg c1] at hF
    refine k_iload_n (pc := 4) i_72_4 rfl ?_
    refine k_aload_n (pc := 5) i_72_5 rfl rfl ?_
    obtain ⟨g2, hF⟩ := kGd_el hF
    refine k_getf (pc := 6) i_72_6 f_4_26 (rd_Tb (i := a0) R g2) rfl ?_
    refine k_icmp_ge (pc := 9) (tgt := 16) i_72_9 (by decide) (fun c3 => ?_) (fun c3 => ?_)
    · rw [if_pos c3] at hF
      refine k_iconst (pc := 16) (v := 0) i_72_16 (by decide) ?_
      obtain rfl := Option.some.inj hF
      exact k_ireturn (pc := 17) i_72_17 rfl rfl (K _ R)
    · rw [if_neg c3] at hF
      refine k_iconst (pc := 12) (v := 1) i_72_12 (by decide) ?_
      refine k_goto (pc := 13) (tgt := 17) i_72_13 (by decide) ?_
      obtain rfl := Option.some.inj hF
      exact k_ireturn (pc := 17) i_72_17 rfl rfl (K _ R)
-- 73: RD$Table valueAt
noncomputable def F_73 (T : kT) (a0 : Nat) (a1 : Int32) (a2 : Int32) (M : kM) : Option (Int32 × kM) :=
  kGd (kLv T (lTb a0)) (kBd (F_72 T a0 a1 M) (fun r2 M3 => if r2 = 0 then (some (0, M3)) else (kBd (F_71 T a0 a2 M3) (fun r6 M7 => if r6 = 0 then (some (0, M7)) else (kGx ((a1 * (gp M7 (lTb a0) 0)) + a2) 240 (some (gp M7 (lTc a0) ((a1 * (gp M7 (lTb a0) 0)) + a2).toNatClampNeg, M7)))))))
set_option maxHeartbeats 1000000 in
theorem D_73 {G : kG} {d : Nat} {A : kLb → Nat} {T : kT} {M : kM} {h : kH} {a0 : Nat} {a1 : Int32} {a2 : Int32} {z : (Int32 × kM)} (R : kRl A T M h) (hF : F_73 T a0 a1 a2 M = some z) : kRun G (d + 2) 73 [.ref (A (lTb a0)), .int a1, .int a2] h 0 0 (kPI A T z) := by
  refine ⟨⟨rfl, Nat.le_of_ble_eq_true rfl⟩, ?_⟩
  show kWP _ _ (kRun G (d + 1)) _ 0 [some (.ref (A (lTb a0))), some (.int a1), some (.int a2)] [] _ _ _
  have K : (fun z : (Int32 × kM) => ∀ h1, kRl A T z.2 h1 → kPI A T z (.inl (some (.int z.1))) h1) z := fun _ q => ⟨rfl, q⟩
  unfold F_73 at hF
  refine k_aload_n (pc := 0) i_73_0 rfl rfl ?_
  refine k_iload_n (pc := 1) i_73_1 rfl ?_
  obtain ⟨g1, hF⟩ := kGd_el hF
  obtain ⟨r2, M3, q4, hF⟩ := kBd_el hF
  refine kcv_I (pc := 2) (As := [.ref (A (lTb a0)), .int a1]) (st := []) (A := A) (T := T) (r := r2) (M1 := M3) i_73_2 m_4_29 rfl rfl rfl rfl (rd_Tb (i := a0) R g1) rfl (Nat.le_of_ble_eq_true rfl) (D_72 R q4) (fun h R => ?_)
  refine k_if_eq (pc := 5) (tgt := 32) i_73_5 (by decide) (fun c5 => ?_) (fun c5 => ?_)
  · rw [if_pos c5] at hF
    refine k_iconst (pc := 32) (v := 0) i_73_32 (by decide) ?_
    obtain rfl := Option.some.inj hF
    exact k_ireturn (pc := 33) i_73_33 rfl rfl (K _ R)
  · rw [if_neg c5] at hF
    refine k_aload_n (pc := 8) i_73_8 rfl rfl ?_
    refine k_iload_n (pc := 9) i_73_9 rfl ?_
    obtain ⟨r6, M7, q8, hF⟩ := kBd_el hF
    refine kcv_I (pc := 10) (As := [.ref (A (lTb a0)), .int a2]) (st := []) (A := A) (T := T) (r := r6) (M1 := M7) i_73_10 m_4_33 rfl rfl rfl rfl (rd_Tb (i := a0) R g1) rfl (Nat.le_of_ble_eq_true rfl) (D_71 R q8) (fun h R => ?_)
    refine k_if_eq (pc := 13) (tgt := 32) i_73_13 (by decide) (fun c9 => ?_) (fun c9 => ?_)
    · rw [if_pos c9] at hF
      refine k_iconst (pc := 32) (v := 0) i_73_32 (by decide) ?_
      obtain rfl := Option.some.inj hF
      exact k_ireturn (pc := 33) i_73_33 rfl rfl (K _ R)
    · rw [if_neg c9] at hF
      refine k_aload_n (pc := 16) i_73_16 rfl rfl ?_
      refine k_getf (pc := 17) i_73_17 f_4_19 (rd_Tb (i := a0) R g1) rfl ?_
      refine k_iload_n (pc := 20) i_73_20 rfl ?_
      refine k_aload_n (pc := 21) i_73_21 rfl rfl ?_
      refine k_getf (pc := 22) i_73_22 f_4_9 (rd_Tb (i := a0) R g1) rfl ?_
      refine k_imul (pc := 25) i_73_25 ?_
      refine k_iload_n (pc := 26) i_73_26 rfl ?_
      refine k_iadd (pc := 27) i_73_27 ?_
      obtain ⟨g10, hF⟩ := kGx_el hF
      refine k_iald (pc := 28) i_73_28 (rd_Tc (i := a0) R g1) g10 ?_
      refine k_goto (pc := 29) (tgt := 33) i_73_29 (by decide) ?_
      obtain rfl := Option.some.inj hF
      exact k_ireturn (pc := 33) i_73_33 rfl rfl (K _ R)
-- 74: RD$Table copyRow
noncomputable def F_74 (T : kT) (a0 : Nat) (a1 : Int32) (a2 : kLb) (M : kM) : Option (Unit × kM) :=
  kGd (kLv T (lTb a0)) (kBd (F_72 T a0 a1 M) (fun r2 M3 => if r2 = 0 then (some ((), M3)) else (kGd (kLv T a2) (kGd (kisI a2) (if (nI (klen a2)) < (gp M3 (lTb a0) 0) then (some ((), M3)) else (kGd (kCk (a1 * (gp M3 (lTb a0) 0)) 0 (gp M3 (lTb a0) 0) 240 (klen a2)) (some ((), sa M3 a2 (va_cpy (gp M3 (lTc a0)) (gp M3 a2) (a1 * (gp M3 (lTb a0) 0)).toNatClampNeg (0 : Int32).toNatClampNeg (gp M3 (lTb a0) 0).toNatClampNeg)))))))))
set_option maxHeartbeats 1000000 in
theorem D_74 {G : kG} {d : Nat} {A : kLb → Nat} {T : kT} {M : kM} {h : kH} {a0 : Nat} {a1 : Int32} {a2 : kLb} {z : (Unit × kM)} (R : kRl A T M h) (hF : F_74 T a0 a1 a2 M = some z) : kRun G (d + 2) 74 [.ref (A (lTb a0)), .int a1, .ref (A a2)] h 0 0 (kPV A T z) := by
  refine ⟨⟨rfl, Nat.le_of_ble_eq_true rfl⟩, ?_⟩
  show kWP _ _ (kRun G (d + 1)) _ 0 [some (.ref (A (lTb a0))), some (.int a1), some (.ref (A a2))] [] _ _ _
  have K : (fun z : (Unit × kM) => ∀ h1, kRl A T z.2 h1 → kPV A T z (.inl none) h1) z := fun _ q => ⟨rfl, q⟩
  unfold F_74 at hF
  refine k_aload_n (pc := 0) i_74_0 rfl rfl ?_
  refine k_iload_n (pc := 1) i_74_1 rfl ?_
  obtain ⟨g1, hF⟩ := kGd_el hF
  obtain ⟨r2, M3, q4, hF⟩ := kBd_el hF
  refine kcv_I (pc := 2) (As := [.ref (A (lTb a0)), .int a1]) (st := []) (A := A) (T := T) (r := r2) (M1 := M3) i_74_2 m_4_29 rfl rfl rfl rfl (rd_Tb (i := a0) R g1) rfl (Nat.le_of_ble_eq_true rfl) (D_72 R q4) (fun h R => ?_)
  refine k_if_eq (pc := 5) (tgt := 36) i_74_5 (by decide) (fun c5 => ?_) (fun c5 => ?_)
  · rw [if_pos c5] at hF
    obtain rfl := Option.some.inj hF
    exact k_return (pc := 36) i_74_36 rfl (K _ R)
  · rw [if_neg c5] at hF
    refine k_aload_n (pc := 8) i_74_8 rfl rfl ?_
    obtain ⟨g6, hF⟩ := kGd_el hF
    obtain ⟨g7, hF⟩ := kGd_el hF
    refine k_alen (pc := 9) (v := nI (klen a2)) i_74_9 (rd_L R g6 g7) (by decide) rfl ?_
    refine k_aload_n (pc := 10) i_74_10 rfl rfl ?_
    refine k_getf (pc := 11) i_74_11 f_4_9 (rd_Tb (i := a0) R g1) rfl ?_
    refine k_icmp_lt (pc := 14) (tgt := 36) i_74_14 (by decide) (fun c8 => ?_) (fun c8 => ?_)
    · rw [if_pos c8] at hF
      obtain rfl := Option.some.inj hF
      exact k_return (pc := 36) i_74_36 rfl (K _ R)
    · rw [if_neg c8] at hF
      refine k_aload_n (pc := 17) i_74_17 rfl rfl ?_
      refine k_getf (pc := 18) i_74_18 f_4_19 (rd_Tb (i := a0) R g1) rfl ?_
      refine k_iload_n (pc := 21) i_74_21 rfl ?_
      refine k_aload_n (pc := 22) i_74_22 rfl rfl ?_
      refine k_getf (pc := 23) i_74_23 f_4_9 (rd_Tb (i := a0) R g1) rfl ?_
      refine k_imul (pc := 26) i_74_26 ?_
      refine k_aload_n (pc := 27) i_74_27 rfl rfl ?_
      refine k_iconst (pc := 28) (v := 0) i_74_28 (by decide) ?_
      refine k_aload_n (pc := 29) i_74_29 rfl rfl ?_
      refine k_getf (pc := 30) i_74_30 f_4_9 (rd_Tb (i := a0) R g1) rfl ?_
      obtain ⟨g9, hF⟩ := kGd_el hF
      obtain ⟨g91, g92, g93, g94, g95⟩ := kCk_el g9
      refine k_copyi (pc := 33) i_74_33 x_4_36 (rd_Tc (i := a0) R g1) (rd_L R g6 g7) g91 g92 g93 g94 g95 (Nat.le_of_ble_eq_true rfl) (fun h e10 => ?_)
      replace R := kRl_sa_L R g6 g7 e10
      clear e10
      obtain rfl := Option.some.inj hF
      exact k_return (pc := 36) i_74_36 rfl (K _ R)
-- 75: RD$Table addRow
noncomputable def F_75 (T : kT) (a0 : Nat) (a1 : kLb) (M : kM) : Option (Unit × kM) :=
  kGd (kLv T (lTb a0)) (if 40 ≤ (gp M (lTb a0) 4) then (some ((), M)) else (kGd (kLv T a1) (kGd (kisI a1) (if (nI (klen a1)) < (gp M (lTb a0) 0) then (some ((), M)) else (kGd (kCk 0 ((gp M (lTb a0) 4) * (gp M (lTb a0) 0)) (gp M (lTb a0) 0) (klen a1) 240) (some ((), sp (sa M (lTc a0) (va_cpy (gp M a1) (gp M (lTc a0)) (0 : Int32).toNatClampNeg ((gp M (lTb a0) 4) * (gp M (lTb a0) 0)).toNatClampNeg (gp M (lTb a0) 0).toNatClampNeg)) (lTb a0) 4 ((gp (sa M (lTc a0) (va_cpy (gp M a1) (gp M (lTc a0)) (0 : Int32).toNatClampNeg ((gp M (lTb a0) 4) * (gp M (lTb a0) 0)).toNatClampNeg (gp M (lTb a0) 0).toNatClampNeg)) (lTb a0) 4) + 1))))))))
set_option maxHeartbeats 1000000 in
theorem D_75 {G : kG} {d : Nat} {A : kLb → Nat} {T : kT} {M : kM} {h : kH} {a0 : Nat} {a1 : kLb} {z : (Unit × kM)} (R : kRl A T M h) (hF : F_75 T a0 a1 M = some z) : kRun G (d + 1) 75 [.ref (A (lTb a0)), .ref (A a1)] h 0 0 (kPV A T z) := by
  refine ⟨⟨rfl, Nat.le_of_ble_eq_true rfl⟩, ?_⟩
  show kWP _ _ (kRun G (d + 0)) _ 0 [some (.ref (A (lTb a0))), some (.ref (A a1))] [] _ _ _
  have K : (fun z : (Unit × kM) => ∀ h1, kRl A T z.2 h1 → kPV A T z (.inl none) h1) z := fun _ q => ⟨rfl, q⟩
  unfold F_75 at hF
  refine k_aload_n (pc := 0) i_75_0 rfl rfl ?_
  obtain ⟨g1, hF⟩ := kGd_el hF
  refine k_getf (pc := 1) i_75_1 f_4_26 (rd_Tb (i := a0) R g1) rfl ?_
  refine k_bipush (pc := 4) (v := 40) i_75_4 (by decide) ?_
  refine k_icmp_ge (pc := 6) (tgt := 50) i_75_6 (by decide) (fun c2 => ?_) (fun c2 => ?_)
  · rw [if_pos c2] at hF
    obtain rfl := Option.some.inj hF
    exact k_return (pc := 50) i_75_50 rfl (K _ R)
  · rw [if_neg c2] at hF
    refine k_aload_n (pc := 9) i_75_9 rfl rfl ?_
    obtain ⟨g3, hF⟩ := kGd_el hF
    obtain ⟨g4, hF⟩ := kGd_el hF
    refine k_alen (pc := 10) (v := nI (klen a1)) i_75_10 (rd_L R g3 g4) (by decide) rfl ?_
    refine k_aload_n (pc := 11) i_75_11 rfl rfl ?_
    refine k_getf (pc := 12) i_75_12 f_4_9 (rd_Tb (i := a0) R g1) rfl ?_
    refine k_icmp_lt (pc := 15) (tgt := 50) i_75_15 (by decide) (fun c5 => ?_) (fun c5 => ?_)
    · rw [if_pos c5] at hF
      obtain rfl := Option.some.inj hF
      exact k_return (pc := 50) i_75_50 rfl (K _ R)
    · rw [if_neg c5] at hF
      refine k_aload_n (pc := 18) i_75_18 rfl rfl ?_
      refine k_iconst (pc := 19) (v := 0) i_75_19 (by decide) ?_
      refine k_aload_n (pc := 20) i_75_20 rfl rfl ?_
      refine k_getf (pc := 21) i_75_21 f_4_19 (rd_Tb (i := a0) R g1) rfl ?_
      refine k_aload_n (pc := 24) i_75_24 rfl rfl ?_
      refine k_getf (pc := 25) i_75_25 f_4_26 (rd_Tb (i := a0) R g1) rfl ?_
      refine k_aload_n (pc := 28) i_75_28 rfl rfl ?_
      refine k_getf (pc := 29) i_75_29 f_4_9 (rd_Tb (i := a0) R g1) rfl ?_
      refine k_imul (pc := 32) i_75_32 ?_
      refine k_aload_n (pc := 33) i_75_33 rfl rfl ?_
      refine k_getf (pc := 34) i_75_34 f_4_9 (rd_Tb (i := a0) R g1) rfl ?_
      obtain ⟨g6, hF⟩ := kGd_el hF
      obtain ⟨g61, g62, g63, g64, g65⟩ := kCk_el g6
      refine k_copyi (pc := 37) i_75_37 x_4_36 (rd_L R g3 g4) (rd_Tc (i := a0) R g1) g61 g62 g63 g64 g65 (Nat.le_of_ble_eq_true rfl) (fun h e7 => ?_)
      replace R := kRl_sa (l := (lTc a0)) (f := va_cpy (gp M a1) (gp M (lTc a0)) (0 : Int32).toNatClampNeg ((gp M (lTb a0) 4) * (gp M (lTb a0) 0)).toNatClampNeg (gp M (lTb a0) 0).toNatClampNeg) R g1 e7
      clear e7
      refine k_aload_n (pc := 40) i_75_40 rfl rfl ?_
      refine k_dup (pc := 41) i_75_41 rfl ?_
      refine k_getf (pc := 42) i_75_42 f_4_26 (rd_Tb (i := a0) R g1) rfl ?_
      refine k_iconst (pc := 45) (v := 1) i_75_45 (by decide) ?_
      refine k_iadd (pc := 46) i_75_46 ?_
      refine k_putf (pc := 47) i_75_47 f_4_26 (rd_Tb (i := a0) R g1) (by decide +kernel) (Nat.le_of_ble_eq_true rfl) rfl rfl rfl (fun h e8 => ?_)
      replace R := kRl_sp (l := (lTb a0)) (k := 4) (v := (gp (sa M (lTc a0) (va_cpy (gp M a1) (gp M (lTc a0)) (0 : Int32).toNatClampNeg ((gp M (lTb a0) 4) * (gp M (lTb a0) 0)).toNatClampNeg (gp M (lTb a0) 0).toNatClampNeg)) (lTb a0) 4) + 1) R g1 e8
      clear e8
      obtain rfl := Option.some.inj hF
      exact k_return (pc := 50) i_75_50 rfl (K _ R)
-- 76: RD$Table countEqual
noncomputable def B_76_5 (T : kT) (a0 : Nat) (a1 : Int32) (a2 : Int32) (a3 : Int32) (a4 : Int32) (M : kM) : Option ((Int32 × Int32 × kM) ⊕ (Int32 × kM)) :=
  kGd (kLv T (lTb a0)) (if (gp M (lTb a0) 4) ≤ a4 then (some (.inr ((a3, M)))) else (kBd (F_73 T a0 a4 a1 M) (fun r3 M4 => if r3 = a2 then (some (.inl ((a3 + 1), (a4 + 1), M4))) else (some (.inl (a3, (a4 + 1), M4))))))
noncomputable def F_76_5 (T : kT) (a0 : Nat) (a1 : Int32) (a2 : Int32) (a3 : Int32) (a4 : Int32) (M : kM) : Option (Int32 × kM) :=
  kWh (fun w : (Int32 × Int32 × kM) => B_76_5 T a0 a1 a2 w.1 w.2.1 w.2.2) (a3, a4, M)
theorem F_76_5_eq (T : kT) (a0 : Nat) (a1 : Int32) (a2 : Int32) (a3 : Int32) (a4 : Int32) (M : kM) : F_76_5 T a0 a1 a2 a3 a4 M = kAg (B_76_5 T a0 a1 a2 a3 a4 M) (fun w => F_76_5 T a0 a1 a2 w.1 w.2.1 w.2.2) := by
  unfold F_76_5
  rw [kWh_eq]
set_option maxHeartbeats 1000000 in
theorem W_76_5 {G : kG} {d : Nat} {A : kLb → Nat} {C : kCl} {P : kO → kH → Prop} {T : kT} {M : kM} {h : kH} {a0 : Nat} {a1 : Int32} {a2 : Int32} {a3 : Int32} {a4 : Int32} {z : (Int32 × kM)} (hC : C = kRun G (d + 2)) (R : kRl A T M h) (K : (fun z : (Int32 × kM) => ∀ h1, kRl A T z.2 h1 → P (.inl (some (.int z.1))) h1) z) (hF : F_76_5 T a0 a1 a2 a3 a4 M = some z) : kWP G 76 C P 5 [some (.ref (A (lTb a0))), some (.int a1), some (.int a2), some (.int a3), some (.int a4)] [] h 0 0 := by
  refine kWh_ind (P := (fun w : (Int32 × Int32 × kM) => ∀ (h : kH), kRl A T w.2.2 h → kWP G 76 C P 5 [some (.ref (A (lTb a0))), some (.int a1), some (.int a2), some (.int w.1), some (.int w.2.1)] [] h 0 0)) (Q := (fun z : (Int32 × kM) => ∀ h1, kRl A T z.2 h1 → P (.inl (some (.int z.1))) h1)) hF K ?_ h R
  clear hF K R
  intro w z hF K h R
  obtain ⟨a3, a4, M⟩ := w
  change B_76_5 T a0 a1 a2 a3 a4 M = some z at hF
  change kWP G 76 C P 5 [some (.ref (A (lTb a0))), some (.int a1), some (.int a2), some (.int a3), some (.int a4)] [] h 0 0
  unfold B_76_5 at hF
  refine k_iload (pc := 5) i_76_5 rfl ?_
  refine k_aload_n (pc := 7) i_76_7 rfl rfl ?_
  obtain ⟨g1, hF⟩ := kGd_el hF
  refine k_getf (pc := 8) i_76_8 f_4_26 (rd_Tb (i := a0) R g1) rfl ?_
  refine k_icmp_ge (pc := 11) (tgt := 34) i_76_11 (by decide) (fun c2 => ?_) (fun c2 => ?_)
  · rw [if_pos c2] at hF
    refine k_iload_n (pc := 34) i_76_34 rfl ?_
    obtain rfl := Option.some.inj hF
    exact k_ireturn (pc := 35) i_76_35 rfl rfl (K _ R)
  · rw [if_neg c2] at hF
    refine k_aload_n (pc := 14) i_76_14 rfl rfl ?_
    refine k_iload (pc := 15) i_76_15 rfl ?_
    refine k_iload_n (pc := 17) i_76_17 rfl ?_
    obtain ⟨r3, M4, q5, hF⟩ := kBd_el hF
    refine kcv_I (pc := 18) (As := [.ref (A (lTb a0)), .int a4, .int a1]) (st := []) (A := A) (T := T) (r := r3) (M1 := M4) i_76_18 m_4_42 rfl rfl rfl rfl (rd_Tb (i := a0) R g1) rfl (Nat.le_of_ble_eq_true rfl) (hC ▸ D_73 R q5) (fun h R => ?_)
    refine k_iload_n (pc := 21) i_76_21 rfl ?_
    refine k_icmp_ne (pc := 22) (tgt := 28) i_76_22 (by decide) (fun c6 => ?_) (fun c6 => ?_)
    · rw [if_neg c6] at hF
      refine k_iinc (pc := 28) (v := a4 + 1) (lo2 := [some (.ref (A (lTb a0))), some (.int a1), some (.int a2), some (.int a3), some (.int (a4 + 1))]) i_76_28 rfl rfl rfl ?_
      refine k_goto (pc := 31) (tgt := 5) i_76_31 (by decide) ?_
      obtain rfl := Option.some.inj hF
      exact K _ R
    · rw [if_pos c6] at hF
      refine k_iinc (pc := 25) (v := a3 + 1) (lo2 := [some (.ref (A (lTb a0))), some (.int a1), some (.int a2), some (.int (a3 + 1)), some (.int a4)]) i_76_25 rfl rfl rfl ?_
      refine k_iinc (pc := 28) (v := a4 + 1) (lo2 := [some (.ref (A (lTb a0))), some (.int a1), some (.int a2), some (.int (a3 + 1)), some (.int (a4 + 1))]) i_76_28 rfl rfl rfl ?_
      refine k_goto (pc := 31) (tgt := 5) i_76_31 (by decide) ?_
      obtain rfl := Option.some.inj hF
      exact K _ R
noncomputable def F_76 (T : kT) (a0 : Nat) (a1 : Int32) (a2 : Int32) (M : kM) : Option (Int32 × kM) :=
  F_76_5 T a0 a1 a2 0 0 M
set_option maxHeartbeats 1000000 in
theorem D_76 {G : kG} {d : Nat} {A : kLb → Nat} {T : kT} {M : kM} {h : kH} {a0 : Nat} {a1 : Int32} {a2 : Int32} {z : (Int32 × kM)} (R : kRl A T M h) (hF : F_76 T a0 a1 a2 M = some z) : kRun G (d + 3) 76 [.ref (A (lTb a0)), .int a1, .int a2] h 0 0 (kPI A T z) := by
  refine ⟨⟨rfl, Nat.le_of_ble_eq_true rfl⟩, ?_⟩
  show kWP _ _ (kRun G (d + 2)) _ 0 [some (.ref (A (lTb a0))), some (.int a1), some (.int a2), none, none] [] _ _ _
  have K : (fun z : (Int32 × kM) => ∀ h1, kRl A T z.2 h1 → kPI A T z (.inl (some (.int z.1))) h1) z := fun _ q => ⟨rfl, q⟩
  unfold F_76 at hF
  refine k_iconst (pc := 0) (v := 0) i_76_0 (by decide) ?_
  refine k_istore_n (pc := 1) (lo2 := [some (.ref (A (lTb a0))), some (.int a1), some (.int a2), some (.int 0), none]) i_76_1 (Nat.le_of_ble_eq_true rfl) rfl ?_
  refine k_iconst (pc := 2) (v := 0) i_76_2 (by decide) ?_
  refine k_istore (pc := 3) (lo2 := [some (.ref (A (lTb a0))), some (.int a1), some (.int a2), some (.int 0), some (.int 0)]) i_76_3 (Nat.le_of_ble_eq_true rfl) rfl ?_
  exact W_76_5 (d := d) rfl R K hF
-- 77: RD$Table nextEqual
noncomputable def B_77_3 (T : kT) (a0 : Nat) (a2 : Int32) (a3 : Int32) (a4 : Int32) (M : kM) : Option ((Int32 × kM) ⊕ (Int32 × kM)) :=
  kGd (kLv T (lTb a0)) (if (gp M (lTb a0) 4) ≤ a4 then (some (.inr ((gp M (lTb a0) 4, M)))) else (kBd (F_73 T a0 a4 a2 M) (fun r3 M4 => if r3 = a3 then (some (.inr ((a4, M4)))) else (some (.inl ((a4 + 1), M4))))))
noncomputable def F_77_3 (T : kT) (a0 : Nat) (a2 : Int32) (a3 : Int32) (a4 : Int32) (M : kM) : Option (Int32 × kM) :=
  kWh (fun w : (Int32 × kM) => B_77_3 T a0 a2 a3 w.1 w.2) (a4, M)
theorem F_77_3_eq (T : kT) (a0 : Nat) (a2 : Int32) (a3 : Int32) (a4 : Int32) (M : kM) : F_77_3 T a0 a2 a3 a4 M = kAg (B_77_3 T a0 a2 a3 a4 M) (fun w => F_77_3 T a0 a2 a3 w.1 w.2) := by
  unfold F_77_3
  rw [kWh_eq]
set_option maxHeartbeats 1000000 in
theorem W_77_3 {G : kG} {d : Nat} {A : kLb → Nat} {C : kCl} {P : kO → kH → Prop} {T : kT} {M : kM} {h : kH} {a0 : Nat} {a2 : Int32} {a3 : Int32} {a4 : Int32} {b1 : Option Value} {z : (Int32 × kM)} (hC : C = kRun G (d + 2)) (R : kRl A T M h) (K : (fun z : (Int32 × kM) => ∀ h1, kRl A T z.2 h1 → P (.inl (some (.int z.1))) h1) z) (hF : F_77_3 T a0 a2 a3 a4 M = some z) : kWP G 77 C P 3 [some (.ref (A (lTb a0))), b1, some (.int a2), some (.int a3), some (.int a4)] [] h 0 0 := by
  refine kWh_ind (P := (fun w : (Int32 × kM) => ∀ (h : kH) (b1 : Option Value), kRl A T w.2 h → kWP G 77 C P 3 [some (.ref (A (lTb a0))), b1, some (.int a2), some (.int a3), some (.int w.1)] [] h 0 0)) (Q := (fun z : (Int32 × kM) => ∀ h1, kRl A T z.2 h1 → P (.inl (some (.int z.1))) h1)) hF K ?_ h _ R
  clear hF K R
  intro w z hF K h b1 R
  obtain ⟨a4, M⟩ := w
  change B_77_3 T a0 a2 a3 a4 M = some z at hF
  change kWP G 77 C P 3 [some (.ref (A (lTb a0))), b1, some (.int a2), some (.int a3), some (.int a4)] [] h 0 0
  unfold B_77_3 at hF
  refine k_iload (pc := 3) i_77_3 rfl ?_
  refine k_aload_n (pc := 5) i_77_5 rfl rfl ?_
  obtain ⟨g1, hF⟩ := kGd_el hF
  refine k_getf (pc := 6) i_77_6 f_4_26 (rd_Tb (i := a0) R g1) rfl ?_
  refine k_icmp_ge (pc := 9) (tgt := 32) i_77_9 (by decide) (fun c2 => ?_) (fun c2 => ?_)
  · rw [if_pos c2] at hF
    refine k_aload_n (pc := 32) i_77_32 rfl rfl ?_
    refine k_getf (pc := 33) i_77_33 f_4_26 (rd_Tb (i := a0) R g1) rfl ?_
    obtain rfl := Option.some.inj hF
    exact k_ireturn (pc := 36) i_77_36 rfl rfl (K _ R)
  · rw [if_neg c2] at hF
    refine k_aload_n (pc := 12) i_77_12 rfl rfl ?_
    refine k_iload (pc := 13) i_77_13 rfl ?_
    refine k_iload_n (pc := 15) i_77_15 rfl ?_
    obtain ⟨r3, M4, q5, hF⟩ := kBd_el hF
    refine kcv_I (pc := 16) (As := [.ref (A (lTb a0)), .int a4, .int a2]) (st := []) (A := A) (T := T) (r := r3) (M1 := M4) i_77_16 m_4_42 rfl rfl rfl rfl (rd_Tb (i := a0) R g1) rfl (Nat.le_of_ble_eq_true rfl) (hC ▸ D_73 R q5) (fun h R => ?_)
    refine k_iload_n (pc := 19) i_77_19 rfl ?_
    refine k_icmp_ne (pc := 20) (tgt := 26) i_77_20 (by decide) (fun c6 => ?_) (fun c6 => ?_)
    · rw [if_neg c6] at hF
      refine k_iinc (pc := 26) (v := a4 + 1) (lo2 := [some (.ref (A (lTb a0))), b1, some (.int a2), some (.int a3), some (.int (a4 + 1))]) i_77_26 rfl rfl rfl ?_
      refine k_goto (pc := 29) (tgt := 3) i_77_29 (by decide) ?_
      obtain rfl := Option.some.inj hF
      exact K _ _ R
    · rw [if_pos c6] at hF
      refine k_iload (pc := 23) i_77_23 rfl ?_
      obtain rfl := Option.some.inj hF
      exact k_ireturn (pc := 25) i_77_25 rfl rfl (K _ R)
noncomputable def F_77 (T : kT) (a0 : Nat) (a1 : Int32) (a2 : Int32) (a3 : Int32) (M : kM) : Option (Int32 × kM) :=
  F_77_3 T a0 a2 a3 a1 M
set_option maxHeartbeats 1000000 in
theorem D_77 {G : kG} {d : Nat} {A : kLb → Nat} {T : kT} {M : kM} {h : kH} {a0 : Nat} {a1 : Int32} {a2 : Int32} {a3 : Int32} {z : (Int32 × kM)} (R : kRl A T M h) (hF : F_77 T a0 a1 a2 a3 M = some z) : kRun G (d + 3) 77 [.ref (A (lTb a0)), .int a1, .int a2, .int a3] h 0 0 (kPI A T z) := by
  refine ⟨⟨rfl, Nat.le_of_ble_eq_true rfl⟩, ?_⟩
  show kWP _ _ (kRun G (d + 2)) _ 0 [some (.ref (A (lTb a0))), some (.int a1), some (.int a2), some (.int a3), none] [] _ _ _
  have K : (fun z : (Int32 × kM) => ∀ h1, kRl A T z.2 h1 → kPI A T z (.inl (some (.int z.1))) h1) z := fun _ q => ⟨rfl, q⟩
  unfold F_77 at hF
  refine k_iload_n (pc := 0) i_77_0 rfl ?_
  refine k_istore (pc := 1) (lo2 := [some (.ref (A (lTb a0))), some (.int a1), some (.int a2), some (.int a3), some (.int a1)]) i_77_1 (Nat.le_of_ble_eq_true rfl) rfl ?_
  exact W_77_3 (d := d) rfl R K hF
-- 78: RD$Table removeEqual
noncomputable def B_78_5 (T : kT) (a0 : Nat) (a1 : Int32) (a2 : Int32) (a3 : Int32) (a4 : Int32) (M : kM) : Option ((Int32 × Int32 × kM) ⊕ (Unit × kM)) :=
  kGd (kLv T (lTb a0)) (if (gp M (lTb a0) 4) ≤ a4 then (some (.inr (((), sp M (lTb a0) 4 a3)))) else (kBd (F_73 T a0 a4 a1 M) (fun r4 M5 => if r4 = a2 then (some (.inl (a3, (a4 + 1), M5))) else (kGd (kCk (a4 * (gp M5 (lTb a0) 0)) (a3 * (gp M5 (lTb a0) 0)) (gp M5 (lTb a0) 0) 240 240) (some (.inl ((a3 + 1), (a4 + 1), sa M5 (lTc a0) (va_cpy (gp M5 (lTc a0)) (gp M5 (lTc a0)) (a4 * (gp M5 (lTb a0) 0)).toNatClampNeg (a3 * (gp M5 (lTb a0) 0)).toNatClampNeg (gp M5 (lTb a0) 0).toNatClampNeg))))))))
noncomputable def F_78_5 (T : kT) (a0 : Nat) (a1 : Int32) (a2 : Int32) (a3 : Int32) (a4 : Int32) (M : kM) : Option (Unit × kM) :=
  kWh (fun w : (Int32 × Int32 × kM) => B_78_5 T a0 a1 a2 w.1 w.2.1 w.2.2) (a3, a4, M)
theorem F_78_5_eq (T : kT) (a0 : Nat) (a1 : Int32) (a2 : Int32) (a3 : Int32) (a4 : Int32) (M : kM) : F_78_5 T a0 a1 a2 a3 a4 M = kAg (B_78_5 T a0 a1 a2 a3 a4 M) (fun w => F_78_5 T a0 a1 a2 w.1 w.2.1 w.2.2) := by
  unfold F_78_5
  rw [kWh_eq]
set_option maxHeartbeats 1000000 in
theorem W_78_5 {G : kG} {d : Nat} {A : kLb → Nat} {C : kCl} {P : kO → kH → Prop} {T : kT} {M : kM} {h : kH} {a0 : Nat} {a1 : Int32} {a2 : Int32} {a3 : Int32} {a4 : Int32} {z : (Unit × kM)} (hC : C = kRun G (d + 2)) (R : kRl A T M h) (K : (fun z : (Unit × kM) => ∀ h1, kRl A T z.2 h1 → P (.inl none) h1) z) (hF : F_78_5 T a0 a1 a2 a3 a4 M = some z) : kWP G 78 C P 5 [some (.ref (A (lTb a0))), some (.int a1), some (.int a2), some (.int a3), some (.int a4)] [] h 0 0 := by
  refine kWh_ind (P := (fun w : (Int32 × Int32 × kM) => ∀ (h : kH), kRl A T w.2.2 h → kWP G 78 C P 5 [some (.ref (A (lTb a0))), some (.int a1), some (.int a2), some (.int w.1), some (.int w.2.1)] [] h 0 0)) (Q := (fun z : (Unit × kM) => ∀ h1, kRl A T z.2 h1 → P (.inl none) h1)) hF K ?_ h R
  clear hF K R
  intro w z hF K h R
  obtain ⟨a3, a4, M⟩ := w
  change B_78_5 T a0 a1 a2 a3 a4 M = some z at hF
  change kWP G 78 C P 5 [some (.ref (A (lTb a0))), some (.int a1), some (.int a2), some (.int a3), some (.int a4)] [] h 0 0
  unfold B_78_5 at hF
  refine k_iload (pc := 5) i_78_5 rfl ?_
  refine k_aload_n (pc := 7) i_78_7 rfl rfl ?_
  obtain ⟨g1, hF⟩ := kGd_el hF
  refine k_getf (pc := 8) i_78_8 f_4_26 (rd_Tb (i := a0) R g1) rfl ?_
  refine k_icmp_ge (pc := 11) (tgt := 62) i_78_11 (by decide) (fun c2 => ?_) (fun c2 => ?_)
  · rw [if_pos c2] at hF
    refine k_aload_n (pc := 62) i_78_62 rfl rfl ?_
    refine k_iload_n (pc := 63) i_78_63 rfl ?_
    refine k_putf (pc := 64) i_78_64 f_4_26 (rd_Tb (i := a0) R g1) (by decide +kernel) (Nat.le_of_ble_eq_true rfl) rfl rfl rfl (fun h e3 => ?_)
    replace R := kRl_sp (l := (lTb a0)) (k := 4) (v := a3) R g1 e3
    clear e3
    obtain rfl := Option.some.inj hF
    exact k_return (pc := 67) i_78_67 rfl (K _ R)
  · rw [if_neg c2] at hF
    refine k_aload_n (pc := 14) i_78_14 rfl rfl ?_
    refine k_iload (pc := 15) i_78_15 rfl ?_
    refine k_iload_n (pc := 17) i_78_17 rfl ?_
    obtain ⟨r4, M5, q6, hF⟩ := kBd_el hF
    refine kcv_I (pc := 18) (As := [.ref (A (lTb a0)), .int a4, .int a1]) (st := []) (A := A) (T := T) (r := r4) (M1 := M5) i_78_18 m_4_42 rfl rfl rfl rfl (rd_Tb (i := a0) R g1) rfl (Nat.le_of_ble_eq_true rfl) (hC ▸ D_73 R q6) (fun h R => ?_)
    refine k_iload_n (pc := 21) i_78_21 rfl ?_
    refine k_icmp_eq (pc := 22) (tgt := 56) i_78_22 (by decide) (fun c7 => ?_) (fun c7 => ?_)
    · rw [if_pos c7] at hF
      refine k_iinc (pc := 56) (v := a4 + 1) (lo2 := [some (.ref (A (lTb a0))), some (.int a1), some (.int a2), some (.int a3), some (.int (a4 + 1))]) i_78_56 rfl rfl rfl ?_
      refine k_goto (pc := 59) (tgt := 5) i_78_59 (by decide) ?_
      obtain rfl := Option.some.inj hF
      exact K _ R
    · rw [if_neg c7] at hF
      refine k_aload_n (pc := 25) i_78_25 rfl rfl ?_
      refine k_getf (pc := 26) i_78_26 f_4_19 (rd_Tb (i := a0) R g1) rfl ?_
      refine k_iload (pc := 29) i_78_29 rfl ?_
      refine k_aload_n (pc := 31) i_78_31 rfl rfl ?_
      refine k_getf (pc := 32) i_78_32 f_4_9 (rd_Tb (i := a0) R g1) rfl ?_
      refine k_imul (pc := 35) i_78_35 ?_
      refine k_aload_n (pc := 36) i_78_36 rfl rfl ?_
      refine k_getf (pc := 37) i_78_37 f_4_19 (rd_Tb (i := a0) R g1) rfl ?_
      refine k_iload_n (pc := 40) i_78_40 rfl ?_
      refine k_aload_n (pc := 41) i_78_41 rfl rfl ?_
      refine k_getf (pc := 42) i_78_42 f_4_9 (rd_Tb (i := a0) R g1) rfl ?_
      refine k_imul (pc := 45) i_78_45 ?_
      refine k_aload_n (pc := 46) i_78_46 rfl rfl ?_
      refine k_getf (pc := 47) i_78_47 f_4_9 (rd_Tb (i := a0) R g1) rfl ?_
      obtain ⟨g8, hF⟩ := kGd_el hF
      obtain ⟨g81, g82, g83, g84, g85⟩ := kCk_el g8
      refine k_copyi (pc := 50) i_78_50 x_4_36 (rd_Tc (i := a0) R g1) (rd_Tc (i := a0) R g1) g81 g82 g83 g84 g85 (Nat.le_of_ble_eq_true rfl) (fun h e9 => ?_)
      replace R := kRl_sa (l := (lTc a0)) (f := va_cpy (gp M5 (lTc a0)) (gp M5 (lTc a0)) (a4 * (gp M5 (lTb a0) 0)).toNatClampNeg (a3 * (gp M5 (lTb a0) 0)).toNatClampNeg (gp M5 (lTb a0) 0).toNatClampNeg) R g1 e9
      clear e9
      refine k_iinc (pc := 53) (v := a3 + 1) (lo2 := [some (.ref (A (lTb a0))), some (.int a1), some (.int a2), some (.int (a3 + 1)), some (.int a4)]) i_78_53 rfl rfl rfl ?_
      refine k_iinc (pc := 56) (v := a4 + 1) (lo2 := [some (.ref (A (lTb a0))), some (.int a1), some (.int a2), some (.int (a3 + 1)), some (.int (a4 + 1))]) i_78_56 rfl rfl rfl ?_
      refine k_goto (pc := 59) (tgt := 5) i_78_59 (by decide) ?_
      obtain rfl := Option.some.inj hF
      exact K _ R
noncomputable def F_78 (T : kT) (a0 : Nat) (a1 : Int32) (a2 : Int32) (M : kM) : Option (Unit × kM) :=
  F_78_5 T a0 a1 a2 0 0 M
set_option maxHeartbeats 1000000 in
theorem D_78 {G : kG} {d : Nat} {A : kLb → Nat} {T : kT} {M : kM} {h : kH} {a0 : Nat} {a1 : Int32} {a2 : Int32} {z : (Unit × kM)} (R : kRl A T M h) (hF : F_78 T a0 a1 a2 M = some z) : kRun G (d + 3) 78 [.ref (A (lTb a0)), .int a1, .int a2] h 0 0 (kPV A T z) := by
  refine ⟨⟨rfl, Nat.le_of_ble_eq_true rfl⟩, ?_⟩
  show kWP _ _ (kRun G (d + 2)) _ 0 [some (.ref (A (lTb a0))), some (.int a1), some (.int a2), none, none] [] _ _ _
  have K : (fun z : (Unit × kM) => ∀ h1, kRl A T z.2 h1 → kPV A T z (.inl none) h1) z := fun _ q => ⟨rfl, q⟩
  unfold F_78 at hF
  refine k_iconst (pc := 0) (v := 0) i_78_0 (by decide) ?_
  refine k_istore_n (pc := 1) (lo2 := [some (.ref (A (lTb a0))), some (.int a1), some (.int a2), some (.int 0), none]) i_78_1 (Nat.le_of_ble_eq_true rfl) rfl ?_
  refine k_iconst (pc := 2) (v := 0) i_78_2 (by decide) ?_
  refine k_istore (pc := 3) (lo2 := [some (.ref (A (lTb a0))), some (.int a1), some (.int a2), some (.int 0), some (.int 0)]) i_78_3 (Nat.le_of_ble_eq_true rfl) rfl ?_
  exact W_78_5 (d := d) rfl R K hF
-- 79: RD$Table setWhereEqual
noncomputable def B_79_3 (T : kT) (a0 : Nat) (a1 : Int32) (a2 : Int32) (a3 : Int32) (a4 : Int32) (a5 : Int32) (M : kM) : Option ((Int32 × kM) ⊕ (Unit × kM)) :=
  kGd (kLv T (lTb a0)) (if (gp M (lTb a0) 4) ≤ a5 then (some (.inr (((), M)))) else (kBd (F_73 T a0 a5 a1 M) (fun r3 M4 => if r3 = a2 then (kBd (F_71 T a0 a3 M4) (fun r7 M8 => if r7 = 0 then (some (.inl ((a5 + 1), M8))) else (kGx ((a5 * (gp M8 (lTb a0) 0)) + a3) 240 (some (.inl ((a5 + 1), sp M8 (lTc a0) ((a5 * (gp M8 (lTb a0) 0)) + a3).toNatClampNeg a4)))))) else (some (.inl ((a5 + 1), M4))))))
noncomputable def F_79_3 (T : kT) (a0 : Nat) (a1 : Int32) (a2 : Int32) (a3 : Int32) (a4 : Int32) (a5 : Int32) (M : kM) : Option (Unit × kM) :=
  kWh (fun w : (Int32 × kM) => B_79_3 T a0 a1 a2 a3 a4 w.1 w.2) (a5, M)
theorem F_79_3_eq (T : kT) (a0 : Nat) (a1 : Int32) (a2 : Int32) (a3 : Int32) (a4 : Int32) (a5 : Int32) (M : kM) : F_79_3 T a0 a1 a2 a3 a4 a5 M = kAg (B_79_3 T a0 a1 a2 a3 a4 a5 M) (fun w => F_79_3 T a0 a1 a2 a3 a4 w.1 w.2) := by
  unfold F_79_3
  rw [kWh_eq]
set_option maxHeartbeats 1000000 in
theorem W_79_3 {G : kG} {d : Nat} {A : kLb → Nat} {C : kCl} {P : kO → kH → Prop} {T : kT} {M : kM} {h : kH} {a0 : Nat} {a1 : Int32} {a2 : Int32} {a3 : Int32} {a4 : Int32} {a5 : Int32} {z : (Unit × kM)} (hC : C = kRun G (d + 2)) (R : kRl A T M h) (K : (fun z : (Unit × kM) => ∀ h1, kRl A T z.2 h1 → P (.inl none) h1) z) (hF : F_79_3 T a0 a1 a2 a3 a4 a5 M = some z) : kWP G 79 C P 3 [some (.ref (A (lTb a0))), some (.int a1), some (.int a2), some (.int a3), some (.int a4), some (.int a5)] [] h 0 0 := by
  refine kWh_ind (P := (fun w : (Int32 × kM) => ∀ (h : kH), kRl A T w.2 h → kWP G 79 C P 3 [some (.ref (A (lTb a0))), some (.int a1), some (.int a2), some (.int a3), some (.int a4), some (.int w.1)] [] h 0 0)) (Q := (fun z : (Unit × kM) => ∀ h1, kRl A T z.2 h1 → P (.inl none) h1)) hF K ?_ h R
  clear hF K R
  intro w z hF K h R
  obtain ⟨a5, M⟩ := w
  change B_79_3 T a0 a1 a2 a3 a4 a5 M = some z at hF
  change kWP G 79 C P 3 [some (.ref (A (lTb a0))), some (.int a1), some (.int a2), some (.int a3), some (.int a4), some (.int a5)] [] h 0 0
  unfold B_79_3 at hF
  refine k_iload (pc := 3) i_79_3 rfl ?_
  refine k_aload_n (pc := 5) i_79_5 rfl rfl ?_
  obtain ⟨g1, hF⟩ := kGd_el hF
  refine k_getf (pc := 6) i_79_6 f_4_26 (rd_Tb (i := a0) R g1) rfl ?_
  refine k_icmp_ge (pc := 9) (tgt := 53) i_79_9 (by decide) (fun c2 => ?_) (fun c2 => ?_)
  · rw [if_pos c2] at hF
    obtain rfl := Option.some.inj hF
    exact k_return (pc := 53) i_79_53 rfl (K _ R)
  · rw [if_neg c2] at hF
    refine k_aload_n (pc := 12) i_79_12 rfl rfl ?_
    refine k_iload (pc := 13) i_79_13 rfl ?_
    refine k_iload_n (pc := 15) i_79_15 rfl ?_
    obtain ⟨r3, M4, q5, hF⟩ := kBd_el hF
    refine kcv_I (pc := 16) (As := [.ref (A (lTb a0)), .int a5, .int a1]) (st := []) (A := A) (T := T) (r := r3) (M1 := M4) i_79_16 m_4_42 rfl rfl rfl rfl (rd_Tb (i := a0) R g1) rfl (Nat.le_of_ble_eq_true rfl) (hC ▸ D_73 R q5) (fun h R => ?_)
    refine k_iload_n (pc := 19) i_79_19 rfl ?_
    refine k_icmp_ne (pc := 20) (tgt := 47) i_79_20 (by decide) (fun c6 => ?_) (fun c6 => ?_)
    · rw [if_neg c6] at hF
      refine k_iinc (pc := 47) (v := a5 + 1) (lo2 := [some (.ref (A (lTb a0))), some (.int a1), some (.int a2), some (.int a3), some (.int a4), some (.int (a5 + 1))]) i_79_47 rfl rfl rfl ?_
      refine k_goto (pc := 50) (tgt := 3) i_79_50 (by decide) ?_
      obtain rfl := Option.some.inj hF
      exact K _ R
    · rw [if_pos c6] at hF
      refine k_aload_n (pc := 23) i_79_23 rfl rfl ?_
      refine k_iload_n (pc := 24) i_79_24 rfl ?_
      obtain ⟨r7, M8, q9, hF⟩ := kBd_el hF
      refine kcv_I (pc := 25) (As := [.ref (A (lTb a0)), .int a3]) (st := []) (A := A) (T := T) (r := r7) (M1 := M8) i_79_25 m_4_33 rfl rfl rfl rfl (rd_Tb (i := a0) R g1) rfl (Nat.le_of_ble_eq_true rfl) (hC ▸ D_71 R q9) (fun h R => ?_)
      refine k_if_eq (pc := 28) (tgt := 47) i_79_28 (by decide) (fun c10 => ?_) (fun c10 => ?_)
      · rw [if_pos c10] at hF
        refine k_iinc (pc := 47) (v := a5 + 1) (lo2 := [some (.ref (A (lTb a0))), some (.int a1), some (.int a2), some (.int a3), some (.int a4), some (.int (a5 + 1))]) i_79_47 rfl rfl rfl ?_
        refine k_goto (pc := 50) (tgt := 3) i_79_50 (by decide) ?_
        obtain rfl := Option.some.inj hF
        exact K _ R
      · rw [if_neg c10] at hF
        refine k_aload_n (pc := 31) i_79_31 rfl rfl ?_
        refine k_getf (pc := 32) i_79_32 f_4_19 (rd_Tb (i := a0) R g1) rfl ?_
        refine k_iload (pc := 35) i_79_35 rfl ?_
        refine k_aload_n (pc := 37) i_79_37 rfl rfl ?_
        refine k_getf (pc := 38) i_79_38 f_4_9 (rd_Tb (i := a0) R g1) rfl ?_
        refine k_imul (pc := 41) i_79_41 ?_
        refine k_iload_n (pc := 42) i_79_42 rfl ?_
        refine k_iadd (pc := 43) i_79_43 ?_
        refine k_iload (pc := 44) i_79_44 rfl ?_
        obtain ⟨g11, hF⟩ := kGx_el hF
        refine k_iast (pc := 46) i_79_46 (rd_Tc (i := a0) R g1) g11 (fun h e12 => ?_)
        replace R := kRl_sp (l := (lTc a0)) (k := ((a5 * (gp M8 (lTb a0) 0)) + a3).toNatClampNeg) (v := a4) R g1 e12
        clear e12
        refine k_iinc (pc := 47) (v := a5 + 1) (lo2 := [some (.ref (A (lTb a0))), some (.int a1), some (.int a2), some (.int a3), some (.int a4), some (.int (a5 + 1))]) i_79_47 rfl rfl rfl ?_
        refine k_goto (pc := 50) (tgt := 3) i_79_50 (by decide) ?_
        obtain rfl := Option.some.inj hF
        exact K _ R
noncomputable def F_79 (T : kT) (a0 : Nat) (a1 : Int32) (a2 : Int32) (a3 : Int32) (a4 : Int32) (M : kM) : Option (Unit × kM) :=
  F_79_3 T a0 a1 a2 a3 a4 0 M
set_option maxHeartbeats 1000000 in
theorem D_79 {G : kG} {d : Nat} {A : kLb → Nat} {T : kT} {M : kM} {h : kH} {a0 : Nat} {a1 : Int32} {a2 : Int32} {a3 : Int32} {a4 : Int32} {z : (Unit × kM)} (R : kRl A T M h) (hF : F_79 T a0 a1 a2 a3 a4 M = some z) : kRun G (d + 3) 79 [.ref (A (lTb a0)), .int a1, .int a2, .int a3, .int a4] h 0 0 (kPV A T z) := by
  refine ⟨⟨rfl, Nat.le_of_ble_eq_true rfl⟩, ?_⟩
  show kWP _ _ (kRun G (d + 2)) _ 0 [some (.ref (A (lTb a0))), some (.int a1), some (.int a2), some (.int a3), some (.int a4), none] [] _ _ _
  have K : (fun z : (Unit × kM) => ∀ h1, kRl A T z.2 h1 → kPV A T z (.inl none) h1) z := fun _ q => ⟨rfl, q⟩
  unfold F_79 at hF
  refine k_iconst (pc := 0) (v := 0) i_79_0 (by decide) ?_
  refine k_istore (pc := 1) (lo2 := [some (.ref (A (lTb a0))), some (.int a1), some (.int a2), some (.int a3), some (.int a4), some (.int 0)]) i_79_1 (Nat.le_of_ble_eq_true rfl) rfl ?_
  exact W_79_3 (d := d) rfl R K hF
-- 80: RD$Table save
noncomputable def F_80 (T : kT) (a0 : Nat) (M : kM) : Option (Unit × kM) :=
  kGd (kLv T (lTb a0)) (kGd (kCk 0 0 ((gp M (lTb a0) 4) * (gp M (lTb a0) 0)) 240 240) (some ((), sp (sa M (lTv a0) (va_cpy (gp M (lTc a0)) (gp M (lTv a0)) (0 : Int32).toNatClampNeg (0 : Int32).toNatClampNeg ((gp M (lTb a0) 4) * (gp M (lTb a0) 0)).toNatClampNeg)) (lTb a0) 5 (gp (sa M (lTv a0) (va_cpy (gp M (lTc a0)) (gp M (lTv a0)) (0 : Int32).toNatClampNeg (0 : Int32).toNatClampNeg ((gp M (lTb a0) 4) * (gp M (lTb a0) 0)).toNatClampNeg)) (lTb a0) 4))))
set_option maxHeartbeats 1000000 in
theorem D_80 {G : kG} {d : Nat} {A : kLb → Nat} {T : kT} {M : kM} {h : kH} {a0 : Nat} {z : (Unit × kM)} (R : kRl A T M h) (hF : F_80 T a0 M = some z) : kRun G (d + 1) 80 [.ref (A (lTb a0))] h 0 0 (kPV A T z) := by
  refine ⟨⟨rfl, Nat.le_of_ble_eq_true rfl⟩, ?_⟩
  show kWP _ _ (kRun G (d + 0)) _ 0 [some (.ref (A (lTb a0)))] [] _ _ _
  have K : (fun z : (Unit × kM) => ∀ h1, kRl A T z.2 h1 → kPV A T z (.inl none) h1) z := fun _ q => ⟨rfl, q⟩
  unfold F_80 at hF
  refine k_aload_n (pc := 0) i_80_0 rfl rfl ?_
  obtain ⟨g1, hF⟩ := kGd_el hF
  refine k_getf (pc := 1) i_80_1 f_4_19 (rd_Tb (i := a0) R g1) rfl ?_
  refine k_iconst (pc := 4) (v := 0) i_80_4 (by decide) ?_
  refine k_aload_n (pc := 5) i_80_5 rfl rfl ?_
  refine k_getf (pc := 6) i_80_6 f_4_23 (rd_Tb (i := a0) R g1) rfl ?_
  refine k_iconst (pc := 9) (v := 0) i_80_9 (by decide) ?_
  refine k_aload_n (pc := 10) i_80_10 rfl rfl ?_
  refine k_getf (pc := 11) i_80_11 f_4_26 (rd_Tb (i := a0) R g1) rfl ?_
  refine k_aload_n (pc := 14) i_80_14 rfl rfl ?_
  refine k_getf (pc := 15) i_80_15 f_4_9 (rd_Tb (i := a0) R g1) rfl ?_
  refine k_imul (pc := 18) i_80_18 ?_
  obtain ⟨g2, hF⟩ := kGd_el hF
  obtain ⟨g21, g22, g23, g24, g25⟩ := kCk_el g2
  refine k_copyi (pc := 19) i_80_19 x_4_36 (rd_Tc (i := a0) R g1) (rd_Tv (i := a0) R g1) g21 g22 g23 g24 g25 (Nat.le_of_ble_eq_true rfl) (fun h e3 => ?_)
  replace R := kRl_sa (l := (lTv a0)) (f := va_cpy (gp M (lTc a0)) (gp M (lTv a0)) (0 : Int32).toNatClampNeg (0 : Int32).toNatClampNeg ((gp M (lTb a0) 4) * (gp M (lTb a0) 0)).toNatClampNeg) R g1 e3
  clear e3
  refine k_aload_n (pc := 22) i_80_22 rfl rfl ?_
  refine k_aload_n (pc := 23) i_80_23 rfl rfl ?_
  refine k_getf (pc := 24) i_80_24 f_4_26 (rd_Tb (i := a0) R g1) rfl ?_
  refine k_putf (pc := 27) i_80_27 f_4_46 (rd_Tb (i := a0) R g1) (by decide +kernel) (Nat.le_of_ble_eq_true rfl) rfl rfl rfl (fun h e4 => ?_)
  replace R := kRl_sp (l := (lTb a0)) (k := 5) (v := gp (sa M (lTv a0) (va_cpy (gp M (lTc a0)) (gp M (lTv a0)) (0 : Int32).toNatClampNeg (0 : Int32).toNatClampNeg ((gp M (lTb a0) 4) * (gp M (lTb a0) 0)).toNatClampNeg)) (lTb a0) 4) R g1 e4
  clear e4
  obtain rfl := Option.some.inj hF
  exact k_return (pc := 30) i_80_30 rfl (K _ R)
-- 81: RD$Table restore
noncomputable def F_81 (T : kT) (a0 : Nat) (M : kM) : Option (Unit × kM) :=
  kGd (kLv T (lTb a0)) (kGd (kCk 0 0 ((gp M (lTb a0) 5) * (gp M (lTb a0) 0)) 240 240) (some ((), sp (sa M (lTc a0) (va_cpy (gp M (lTv a0)) (gp M (lTc a0)) (0 : Int32).toNatClampNeg (0 : Int32).toNatClampNeg ((gp M (lTb a0) 5) * (gp M (lTb a0) 0)).toNatClampNeg)) (lTb a0) 4 (gp (sa M (lTc a0) (va_cpy (gp M (lTv a0)) (gp M (lTc a0)) (0 : Int32).toNatClampNeg (0 : Int32).toNatClampNeg ((gp M (lTb a0) 5) * (gp M (lTb a0) 0)).toNatClampNeg)) (lTb a0) 5))))
set_option maxHeartbeats 1000000 in
theorem D_81 {G : kG} {d : Nat} {A : kLb → Nat} {T : kT} {M : kM} {h : kH} {a0 : Nat} {z : (Unit × kM)} (R : kRl A T M h) (hF : F_81 T a0 M = some z) : kRun G (d + 1) 81 [.ref (A (lTb a0))] h 0 0 (kPV A T z) := by
  refine ⟨⟨rfl, Nat.le_of_ble_eq_true rfl⟩, ?_⟩
  show kWP _ _ (kRun G (d + 0)) _ 0 [some (.ref (A (lTb a0)))] [] _ _ _
  have K : (fun z : (Unit × kM) => ∀ h1, kRl A T z.2 h1 → kPV A T z (.inl none) h1) z := fun _ q => ⟨rfl, q⟩
  unfold F_81 at hF
  refine k_aload_n (pc := 0) i_81_0 rfl rfl ?_
  obtain ⟨g1, hF⟩ := kGd_el hF
  refine k_getf (pc := 1) i_81_1 f_4_23 (rd_Tb (i := a0) R g1) rfl ?_
  refine k_iconst (pc := 4) (v := 0) i_81_4 (by decide) ?_
  refine k_aload_n (pc := 5) i_81_5 rfl rfl ?_
  refine k_getf (pc := 6) i_81_6 f_4_19 (rd_Tb (i := a0) R g1) rfl ?_
  refine k_iconst (pc := 9) (v := 0) i_81_9 (by decide) ?_
  refine k_aload_n (pc := 10) i_81_10 rfl rfl ?_
  refine k_getf (pc := 11) i_81_11 f_4_46 (rd_Tb (i := a0) R g1) rfl ?_
  refine k_aload_n (pc := 14) i_81_14 rfl rfl ?_
  refine k_getf (pc := 15) i_81_15 f_4_9 (rd_Tb (i := a0) R g1) rfl ?_
  refine k_imul (pc := 18) i_81_18 ?_
  obtain ⟨g2, hF⟩ := kGd_el hF
  obtain ⟨g21, g22, g23, g24, g25⟩ := kCk_el g2
  refine k_copyi (pc := 19) i_81_19 x_4_36 (rd_Tv (i := a0) R g1) (rd_Tc (i := a0) R g1) g21 g22 g23 g24 g25 (Nat.le_of_ble_eq_true rfl) (fun h e3 => ?_)
  replace R := kRl_sa (l := (lTc a0)) (f := va_cpy (gp M (lTv a0)) (gp M (lTc a0)) (0 : Int32).toNatClampNeg (0 : Int32).toNatClampNeg ((gp M (lTb a0) 5) * (gp M (lTb a0) 0)).toNatClampNeg) R g1 e3
  clear e3
  refine k_aload_n (pc := 22) i_81_22 rfl rfl ?_
  refine k_aload_n (pc := 23) i_81_23 rfl rfl ?_
  refine k_getf (pc := 24) i_81_24 f_4_46 (rd_Tb (i := a0) R g1) rfl ?_
  refine k_putf (pc := 27) i_81_27 f_4_26 (rd_Tb (i := a0) R g1) (by decide +kernel) (Nat.le_of_ble_eq_true rfl) rfl rfl rfl (fun h e4 => ?_)
  replace R := kRl_sp (l := (lTb a0)) (k := 4) (v := gp (sa M (lTc a0) (va_cpy (gp M (lTv a0)) (gp M (lTc a0)) (0 : Int32).toNatClampNeg (0 : Int32).toNatClampNeg ((gp M (lTb a0) 5) * (gp M (lTb a0) 0)).toNatClampNeg)) (lTb a0) 5) R g1 e4
  clear e4
  obtain rfl := Option.some.inj hF
  exact k_return (pc := 30) i_81_30 rfl (K _ R)
-- 18: RD widthOf
noncomputable def F_18 (T : kT) (a0 : Option Nat) (M : kM) : Option (Int32 × kM) :=
  kOpt a0 (some (0, M)) (fun j1 => kGd (kLv T (lTm j1)) (some (gp M (lTm j1) 9, M)))
set_option maxHeartbeats 1000000 in
theorem D_18 {G : kG} {d : Nat} {A : kLb → Nat} {T : kT} {M : kM} {h : kH} {a0 : Option Nat} {z : (Int32 × kM)} (R : kRl A T M h) (hF : F_18 T a0 M = some z) : kRun G (d + 1) 18 [rTm A a0] h 0 0 (kPI A T z) := by
  refine ⟨⟨by cases a0 <;> rfl, Nat.le_of_ble_eq_true rfl⟩, ?_⟩
  show kWP _ _ (kRun G (d + 0)) _ 0 [some (rTm A a0)] [] _ _ _
  have K : (fun z : (Int32 × kM) => ∀ h1, kRl A T z.2 h1 → kPI A T z (.inl (some (.int z.1))) h1) z := fun _ q => ⟨rfl, q⟩
  unfold F_18 at hF
  refine k_aload_n (pc := 0) i_18_0 rfl (rf_is _) ?_
  rcases kOpt_el hF with ⟨rfl, hG⟩ | ⟨j1, rfl, hG⟩
  · replace hF := hG
    clear hG
    refine k_nonnullN (pc := 1) i_18_1 ?_
    refine k_iconst (pc := 4) (v := 0) i_18_4 (by decide) ?_
    refine k_goto (pc := 5) (tgt := 12) i_18_5 (by decide) ?_
    obtain rfl := Option.some.inj hF
    exact k_ireturn (pc := 12) i_18_12 rfl rfl (K _ R)
  · replace hF := hG
    clear hG
    refine k_nonnull (pc := 1) (tgt := 8) i_18_1 (by decide) ?_
    refine k_aload_n (pc := 8) i_18_8 rfl rfl ?_
    obtain ⟨g3, hF⟩ := kGd_el hF
    refine k_getf (pc := 9) i_18_9 f_0_166 (rd_Tm (i := j1) R g3) rfl ?_
    obtain rfl := Option.some.inj hF
    exact k_ireturn (pc := 12) i_18_12 rfl rfl (K _ R)
-- 83: RD$Tables byNumber
noncomputable def F_83 (T : kT) (a1 : Int32) (M : kM) : Option (Option Nat × kM) :=
  if a1 < 0 then (some (none, M)) else (if (gp M lTs 1) ≤ a1 then (some (none, M)) else (kGx a1 6 (some (gq M lAl a1.toNatClampNeg, M))))
set_option maxHeartbeats 1000000 in
theorem D_83 {G : kG} {d : Nat} {A : kLb → Nat} {T : kT} {M : kM} {h : kH} {a1 : Int32} {z : (Option Nat × kM)} (R : kRl A T M h) (hF : F_83 T a1 M = some z) : kRun G (d + 1) 83 [.ref (A lTs), .int a1] h 0 0 (kPB A T z) := by
  refine ⟨⟨rfl, Nat.le_of_ble_eq_true rfl⟩, ?_⟩
  show kWP _ _ (kRun G (d + 0)) _ 0 [some (.ref (A lTs)), some (.int a1)] [] _ _ _
  have K : (fun z : (Option Nat × kM) => ∀ h1, kRl A T z.2 h1 → kPB A T z (.inl (some (rTb A z.1))) h1) z := fun _ q => ⟨rfl, q⟩
  unfold F_83 at hF
  refine k_iload_n (pc := 0) i_83_0 rfl ?_
  refine k_if_lt (pc := 1) (tgt := 21) i_83_1 (by decide) (fun c1 => ?_) (fun c1 => ?_)
  · rw [if_pos c1] at hF
    refine k_null (pc := 21) i_83_21 ?_
    obtain rfl := Option.some.inj hF
    exact k_areturn (pc := 22) i_83_22 rfl rfl (K _ R)
  · rw [if_neg c1] at hF
    refine k_iload_n (pc := 4) i_83_4 rfl ?_
    refine k_aload_n (pc := 5) i_83_5 rfl rfl ?_
    refine k_getf (pc := 6) i_83_6 f_5_17 (rd_Ts R) rfl ?_
    refine k_icmp_ge (pc := 9) (tgt := 21) i_83_9 (by decide) (fun c2 => ?_) (fun c2 => ?_)
    · rw [if_pos c2] at hF
      refine k_null (pc := 21) i_83_21 ?_
      obtain rfl := Option.some.inj hF
      exact k_areturn (pc := 22) i_83_22 rfl rfl (K _ R)
    · rw [if_neg c2] at hF
      refine k_aload_n (pc := 12) i_83_12 rfl rfl ?_
      refine k_getf (pc := 13) i_83_13 f_5_11 (rd_Ts R) rfl ?_
      refine k_iload_n (pc := 16) i_83_16 rfl ?_
      obtain ⟨g3, hF⟩ := kGx_el hF
      refine k_aald (pc := 17) i_83_17 rfl (rd_Al R) g3 ?_
      change kWP _ _ _ _ _ _ [rTb A (gq M lAl a1.toNatClampNeg)] _ _ _
      refine k_goto (pc := 18) (tgt := 22) i_83_18 (by decide) ?_
      obtain rfl := Option.some.inj hF
      exact k_areturn (pc := 22) i_83_22 rfl (rf_is _) (K _ R)
-- 85: RD$Tables mayChange
noncomputable def F_85 (T : kT) (a1 : Int32) (M : kM) : Option (Int32 × kM) :=
  if (gp M lTs 2) = 0 then (some (1, M)) else (if 120 < ((gp M lTs 3) + a1) then (some (0, M)) else (some (1, M)))
set_option maxHeartbeats 1000000 in
theorem D_85 {G : kG} {d : Nat} {A : kLb → Nat} {T : kT} {M : kM} {h : kH} {a1 : Int32} {z : (Int32 × kM)} (R : kRl A T M h) (hF : F_85 T a1 M = some z) : kRun G (d + 1) 85 [.ref (A lTs), .int a1] h 0 0 (kPI A T z) := by
  refine ⟨⟨rfl, Nat.le_of_ble_eq_true rfl⟩, ?_⟩
  show kWP _ _ (kRun G (d + 0)) _ 0 [some (.ref (A lTs)), some (.int a1)] [] _ _ _
  have K : (fun z : (Int32 × kM) => ∀ h1, kRl A T z.2 h1 → kPI A T z (.inl (some (.int z.1))) h1) z := fun _ q => ⟨rfl, q⟩
  unfold F_85 at hF
  refine k_aload_n (pc := 0) i_85_0 rfl rfl ?_
  refine k_getf (pc := 1) i_85_1 f_5_24 (rd_Ts R) rfl ?_
  refine k_if_eq (pc := 4) (tgt := 18) i_85_4 (by decide) (fun c1 => ?_) (fun c1 => ?_)
  · rw [if_pos c1] at hF
    refine k_iconst (pc := 18) (v := 1) i_85_18 (by decide) ?_
    refine k_goto (pc := 19) (tgt := 23) i_85_19 (by decide) ?_
    obtain rfl := Option.some.inj hF
    exact k_ireturn (pc := 23) i_85_23 rfl rfl (K _ R)
  · rw [if_neg c1] at hF
    refine k_aload_n (pc := 7) i_85_7 rfl rfl ?_
    refine k_getf (pc := 8) i_85_8 f_5_28 (rd_Ts R) rfl ?_
    refine k_iload_n (pc := 11) i_85_11 rfl ?_
    refine k_iadd (pc := 12) i_85_12 ?_
    refine k_bipush (pc := 13) (v := 120) i_85_13 (by decide) ?_
    refine k_icmp_gt (pc := 15) (tgt := 22) i_85_15 (by decide) (fun c2 => ?_) (fun c2 => ?_)
    · rw [if_pos c2] at hF
      refine k_iconst (pc := 22) (v := 0) i_85_22 (by decide) ?_
      obtain rfl := Option.some.inj hF
      exact k_ireturn (pc := 23) i_85_23 rfl rfl (K _ R)
    · rw [if_neg c2] at hF
      refine k_iconst (pc := 18) (v := 1) i_85_18 (by decide) ?_
      refine k_goto (pc := 19) (tgt := 23) i_85_19 (by decide) ?_
      obtain rfl := Option.some.inj hF
      exact k_ireturn (pc := 23) i_85_23 rfl rfl (K _ R)
-- 86: RD$Tables countChanged
noncomputable def F_86 (T : kT) (a1 : Int32) (M : kM) : Option (Unit × kM) :=
  if (gp M lTs 2) = 0 then (some ((), M)) else (some ((), sp M lTs 3 ((gp M lTs 3) + a1)))
set_option maxHeartbeats 1000000 in
theorem D_86 {G : kG} {d : Nat} {A : kLb → Nat} {T : kT} {M : kM} {h : kH} {a1 : Int32} {z : (Unit × kM)} (R : kRl A T M h) (hF : F_86 T a1 M = some z) : kRun G (d + 1) 86 [.ref (A lTs), .int a1] h 0 0 (kPV A T z) := by
  refine ⟨⟨rfl, Nat.le_of_ble_eq_true rfl⟩, ?_⟩
  show kWP _ _ (kRun G (d + 0)) _ 0 [some (.ref (A lTs)), some (.int a1)] [] _ _ _
  have K : (fun z : (Unit × kM) => ∀ h1, kRl A T z.2 h1 → kPV A T z (.inl none) h1) z := fun _ q => ⟨rfl, q⟩
  unfold F_86 at hF
  refine k_aload_n (pc := 0) i_86_0 rfl rfl ?_
  refine k_getf (pc := 1) i_86_1 f_5_24 (rd_Ts R) rfl ?_
  refine k_if_eq (pc := 4) (tgt := 17) i_86_4 (by decide) (fun c1 => ?_) (fun c1 => ?_)
  · rw [if_pos c1] at hF
    obtain rfl := Option.some.inj hF
    exact k_return (pc := 17) i_86_17 rfl (K _ R)
  · rw [if_neg c1] at hF
    refine k_aload_n (pc := 7) i_86_7 rfl rfl ?_
    refine k_dup (pc := 8) i_86_8 rfl ?_
    refine k_getf (pc := 9) i_86_9 f_5_28 (rd_Ts R) rfl ?_
    refine k_iload_n (pc := 12) i_86_12 rfl ?_
    refine k_iadd (pc := 13) i_86_13 ?_
    refine k_putf (pc := 14) i_86_14 f_5_28 (rd_Ts R) (by decide +kernel) (Nat.le_of_ble_eq_true rfl) rfl rfl rfl (fun h e2 => ?_)
    replace R := kRl_sp (l := lTs) (k := 3) (v := (gp M lTs 3) + a1) R rfl e2
    clear e2
    obtain rfl := Option.some.inj hF
    exact k_return (pc := 17) i_86_17 rfl (K _ R)
-- 87: RD$Tables openTransaction
noncomputable def B_87_12 (T : kT) (a1 : Int32) (M : kM) : Option ((Int32 × kM) ⊕ (Unit × kM)) :=
  if 6 ≤ a1 then (some (.inr (((), M)))) else (kBd (F_83 T a1 M) (fun r4 M5 => kOpt r4 (some (.inl ((a1 + 1), M5))) (fun j7 => kGd (kLv T (lTb j7)) (kBd (F_80 T j7 M5) (fun r10 M11 => some (.inl ((a1 + 1), M11)))))))
noncomputable def F_87_12 (T : kT) (a1 : Int32) (M : kM) : Option (Unit × kM) :=
  kWh (fun w : (Int32 × kM) => B_87_12 T w.1 w.2) (a1, M)
theorem F_87_12_eq (T : kT) (a1 : Int32) (M : kM) : F_87_12 T a1 M = kAg (B_87_12 T a1 M) (fun w => F_87_12 T w.1 w.2) := by
  unfold F_87_12
  rw [kWh_eq]
set_option maxHeartbeats 1000000 in
theorem W_87_12 {G : kG} {d : Nat} {A : kLb → Nat} {C : kCl} {P : kO → kH → Prop} {T : kT} {M : kM} {h : kH} {a1 : Int32} {b2 : Option Value} {z : (Unit × kM)} (hC : C = kRun G (d + 1)) (R : kRl A T M h) (K : (fun z : (Unit × kM) => ∀ h1, kRl A T z.2 h1 → P (.inl none) h1) z) (hF : F_87_12 T a1 M = some z) : kWP G 87 C P 12 [some (.ref (A lTs)), some (.int a1), b2] [] h 0 0 := by
  refine kWh_ind (P := (fun w : (Int32 × kM) => ∀ (h : kH) (b2 : Option Value), kRl A T w.2 h → kWP G 87 C P 12 [some (.ref (A lTs)), some (.int w.1), b2] [] h 0 0)) (Q := (fun z : (Unit × kM) => ∀ h1, kRl A T z.2 h1 → P (.inl none) h1)) hF K ?_ h _ R
  clear hF K R
  intro w z hF K h b2 R
  obtain ⟨a1, M⟩ := w
  change B_87_12 T a1 M = some z at hF
  change kWP G 87 C P 12 [some (.ref (A lTs)), some (.int a1), b2] [] h 0 0
  unfold B_87_12 at hF
  refine k_iload_n (pc := 12) i_87_12 rfl ?_
  refine k_bipush (pc := 13) (v := 6) i_87_13 (by decide) ?_
  refine k_icmp_ge (pc := 15) (tgt := 38) i_87_15 (by decide) (fun c3 => ?_) (fun c3 => ?_)
  · rw [if_pos c3] at hF
    obtain rfl := Option.some.inj hF
    exact k_return (pc := 38) i_87_38 rfl (K _ R)
  · rw [if_neg c3] at hF
    refine k_aload_n (pc := 18) i_87_18 rfl rfl ?_
    refine k_iload_n (pc := 19) i_87_19 rfl ?_
    obtain ⟨r4, M5, q6, hF⟩ := kBd_el hF
    refine kcv_B (pc := 20) (As := [.ref (A lTs), .int a1]) (st := []) (A := A) (T := T) (r := r4) (M1 := M5) i_87_20 m_5_31 rfl rfl rfl rfl (rd_Ts R) rfl (Nat.le_of_ble_eq_true rfl) (hC ▸ D_83 R q6) (fun h R => ?_)
    refine k_astore_n (pc := 23) (lo2 := [some (.ref (A lTs)), some (.int a1), some (rTb A r4)]) i_87_23 (Nat.le_of_ble_eq_true rfl) (rf_is _) rfl ?_
    refine k_aload_n (pc := 24) i_87_24 rfl (rf_is _) ?_
    rcases kOpt_el hF with ⟨rfl, hG⟩ | ⟨j7, rfl, hG⟩
    · replace hF := hG
      clear hG
      refine k_isnullN (pc := 25) (tgt := 32) i_87_25 (by decide) ?_
      refine k_iinc (pc := 32) (v := a1 + 1) (lo2 := [some (.ref (A lTs)), some (.int (a1 + 1)), some (.null)]) i_87_32 rfl rfl rfl ?_
      refine k_goto (pc := 35) (tgt := 12) i_87_35 (by decide) ?_
      obtain rfl := Option.some.inj hF
      exact K _ _ R
    · replace hF := hG
      clear hG
      refine k_isnull (pc := 25) i_87_25 ?_
      refine k_aload_n (pc := 28) i_87_28 rfl rfl ?_
      obtain ⟨g9, hF⟩ := kGd_el hF
      obtain ⟨r10, M11, q12, hF⟩ := kBd_el hF
      refine kcv_V (pc := 29) (As := [.ref (A (lTb j7))]) (st := []) (A := A) (T := T) (r := r10) (M1 := M11) i_87_29 m_5_35 rfl rfl rfl rfl (rd_Tb (i := j7) R g9) rfl (Nat.le_of_ble_eq_true rfl) (hC ▸ D_80 R q12) (fun h R => ?_)
      refine k_iinc (pc := 32) (v := a1 + 1) (lo2 := [some (.ref (A lTs)), some (.int (a1 + 1)), some (.ref (A (lTb j7)))]) i_87_32 rfl rfl rfl ?_
      refine k_goto (pc := 35) (tgt := 12) i_87_35 (by decide) ?_
      obtain rfl := Option.some.inj hF
      exact K _ _ R
noncomputable def F_87 (T : kT) (M : kM) : Option (Unit × kM) :=
  F_87_12 T 0 (sp (sp M lTs 2 1) lTs 3 0)
set_option maxHeartbeats 1000000 in
theorem D_87 {G : kG} {d : Nat} {A : kLb → Nat} {T : kT} {M : kM} {h : kH} {z : (Unit × kM)} (R : kRl A T M h) (hF : F_87 T  M = some z) : kRun G (d + 2) 87 [.ref (A lTs)] h 0 0 (kPV A T z) := by
  refine ⟨⟨rfl, Nat.le_of_ble_eq_true rfl⟩, ?_⟩
  show kWP _ _ (kRun G (d + 1)) _ 0 [some (.ref (A lTs)), none, none] [] _ _ _
  have K : (fun z : (Unit × kM) => ∀ h1, kRl A T z.2 h1 → kPV A T z (.inl none) h1) z := fun _ q => ⟨rfl, q⟩
  unfold F_87 at hF
  refine k_aload_n (pc := 0) i_87_0 rfl rfl ?_
  refine k_iconst (pc := 1) (v := 1) i_87_1 (by decide) ?_
  refine k_putf (pc := 2) i_87_2 f_5_24 (rd_Ts R) (by decide +kernel) (Nat.le_of_ble_eq_true rfl) rfl rfl rfl (fun h e1 => ?_)
  replace R := kRl_sp (l := lTs) (k := 2) (v := 1) R rfl e1
  clear e1
  refine k_aload_n (pc := 5) i_87_5 rfl rfl ?_
  refine k_iconst (pc := 6) (v := 0) i_87_6 (by decide) ?_
  refine k_putf (pc := 7) i_87_7 f_5_28 (rd_Ts R) (by decide +kernel) (Nat.le_of_ble_eq_true rfl) rfl rfl rfl (fun h e2 => ?_)
  replace R := kRl_sp (l := lTs) (k := 3) (v := 0) R rfl e2
  clear e2
  refine k_iconst (pc := 10) (v := 0) i_87_10 (by decide) ?_
  refine k_istore_n (pc := 11) (lo2 := [some (.ref (A lTs)), some (.int 0), none]) i_87_11 (Nat.le_of_ble_eq_true rfl) rfl ?_
  exact W_87_12 (d := d) rfl R K hF
-- 88: RD$Tables closeTransaction
noncomputable def F_88 (T : kT) (M : kM) : Option (Int32 × kM) :=
  some (gp (sp M lTs 2 0) lTs 3, sp M lTs 2 0)
set_option maxHeartbeats 1000000 in
theorem D_88 {G : kG} {d : Nat} {A : kLb → Nat} {T : kT} {M : kM} {h : kH} {z : (Int32 × kM)} (R : kRl A T M h) (hF : F_88 T  M = some z) : kRun G (d + 1) 88 [.ref (A lTs)] h 0 0 (kPI A T z) := by
  refine ⟨⟨rfl, Nat.le_of_ble_eq_true rfl⟩, ?_⟩
  show kWP _ _ (kRun G (d + 0)) _ 0 [some (.ref (A lTs))] [] _ _ _
  have K : (fun z : (Int32 × kM) => ∀ h1, kRl A T z.2 h1 → kPI A T z (.inl (some (.int z.1))) h1) z := fun _ q => ⟨rfl, q⟩
  unfold F_88 at hF
  refine k_aload_n (pc := 0) i_88_0 rfl rfl ?_
  refine k_iconst (pc := 1) (v := 0) i_88_1 (by decide) ?_
  refine k_putf (pc := 2) i_88_2 f_5_24 (rd_Ts R) (by decide +kernel) (Nat.le_of_ble_eq_true rfl) rfl rfl rfl (fun h e1 => ?_)
  replace R := kRl_sp (l := lTs) (k := 2) (v := 0) R rfl e1
  clear e1
  refine k_aload_n (pc := 5) i_88_5 rfl rfl ?_
  refine k_getf (pc := 6) i_88_6 f_5_28 (rd_Ts R) rfl ?_
  obtain rfl := Option.some.inj hF
  exact k_ireturn (pc := 9) i_88_9 rfl rfl (K _ R)
-- 89: RD$Tables restoreAll
noncomputable def B_89_2 (T : kT) (a1 : Int32) (M : kM) : Option ((Int32 × kM) ⊕ (Unit × kM)) :=
  if 6 ≤ a1 then (some (.inr (((), M)))) else (kBd (F_83 T a1 M) (fun r2 M3 => kOpt r2 (some (.inl ((a1 + 1), M3))) (fun j5 => kGd (kLv T (lTb j5)) (kBd (F_81 T j5 M3) (fun r8 M9 => some (.inl ((a1 + 1), M9)))))))
noncomputable def F_89_2 (T : kT) (a1 : Int32) (M : kM) : Option (Unit × kM) :=
  kWh (fun w : (Int32 × kM) => B_89_2 T w.1 w.2) (a1, M)
theorem F_89_2_eq (T : kT) (a1 : Int32) (M : kM) : F_89_2 T a1 M = kAg (B_89_2 T a1 M) (fun w => F_89_2 T w.1 w.2) := by
  unfold F_89_2
  rw [kWh_eq]
set_option maxHeartbeats 1000000 in
theorem W_89_2 {G : kG} {d : Nat} {A : kLb → Nat} {C : kCl} {P : kO → kH → Prop} {T : kT} {M : kM} {h : kH} {a1 : Int32} {b2 : Option Value} {z : (Unit × kM)} (hC : C = kRun G (d + 1)) (R : kRl A T M h) (K : (fun z : (Unit × kM) => ∀ h1, kRl A T z.2 h1 → P (.inl none) h1) z) (hF : F_89_2 T a1 M = some z) : kWP G 89 C P 2 [some (.ref (A lTs)), some (.int a1), b2] [] h 0 0 := by
  refine kWh_ind (P := (fun w : (Int32 × kM) => ∀ (h : kH) (b2 : Option Value), kRl A T w.2 h → kWP G 89 C P 2 [some (.ref (A lTs)), some (.int w.1), b2] [] h 0 0)) (Q := (fun z : (Unit × kM) => ∀ h1, kRl A T z.2 h1 → P (.inl none) h1)) hF K ?_ h _ R
  clear hF K R
  intro w z hF K h b2 R
  obtain ⟨a1, M⟩ := w
  change B_89_2 T a1 M = some z at hF
  change kWP G 89 C P 2 [some (.ref (A lTs)), some (.int a1), b2] [] h 0 0
  unfold B_89_2 at hF
  refine k_iload_n (pc := 2) i_89_2 rfl ?_
  refine k_bipush (pc := 3) (v := 6) i_89_3 (by decide) ?_
  refine k_icmp_ge (pc := 5) (tgt := 28) i_89_5 (by decide) (fun c1 => ?_) (fun c1 => ?_)
  · rw [if_pos c1] at hF
    obtain rfl := Option.some.inj hF
    exact k_return (pc := 28) i_89_28 rfl (K _ R)
  · rw [if_neg c1] at hF
    refine k_aload_n (pc := 8) i_89_8 rfl rfl ?_
    refine k_iload_n (pc := 9) i_89_9 rfl ?_
    obtain ⟨r2, M3, q4, hF⟩ := kBd_el hF
    refine kcv_B (pc := 10) (As := [.ref (A lTs), .int a1]) (st := []) (A := A) (T := T) (r := r2) (M1 := M3) i_89_10 m_5_31 rfl rfl rfl rfl (rd_Ts R) rfl (Nat.le_of_ble_eq_true rfl) (hC ▸ D_83 R q4) (fun h R => ?_)
    refine k_astore_n (pc := 13) (lo2 := [some (.ref (A lTs)), some (.int a1), some (rTb A r2)]) i_89_13 (Nat.le_of_ble_eq_true rfl) (rf_is _) rfl ?_
    refine k_aload_n (pc := 14) i_89_14 rfl (rf_is _) ?_
    rcases kOpt_el hF with ⟨rfl, hG⟩ | ⟨j5, rfl, hG⟩
    · replace hF := hG
      clear hG
      refine k_isnullN (pc := 15) (tgt := 22) i_89_15 (by decide) ?_
      refine k_iinc (pc := 22) (v := a1 + 1) (lo2 := [some (.ref (A lTs)), some (.int (a1 + 1)), some (.null)]) i_89_22 rfl rfl rfl ?_
      refine k_goto (pc := 25) (tgt := 2) i_89_25 (by decide) ?_
      obtain rfl := Option.some.inj hF
      exact K _ _ R
    · replace hF := hG
      clear hG
      refine k_isnull (pc := 15) i_89_15 ?_
      refine k_aload_n (pc := 18) i_89_18 rfl rfl ?_
      obtain ⟨g7, hF⟩ := kGd_el hF
      obtain ⟨r8, M9, q10, hF⟩ := kBd_el hF
      refine kcv_V (pc := 19) (As := [.ref (A (lTb j5))]) (st := []) (A := A) (T := T) (r := r8) (M1 := M9) i_89_19 m_5_38 rfl rfl rfl rfl (rd_Tb (i := j5) R g7) rfl (Nat.le_of_ble_eq_true rfl) (hC ▸ D_81 R q10) (fun h R => ?_)
      refine k_iinc (pc := 22) (v := a1 + 1) (lo2 := [some (.ref (A lTs)), some (.int (a1 + 1)), some (.ref (A (lTb j5)))]) i_89_22 rfl rfl rfl ?_
      refine k_goto (pc := 25) (tgt := 2) i_89_25 (by decide) ?_
      obtain rfl := Option.some.inj hF
      exact K _ _ R
noncomputable def F_89 (T : kT) (M : kM) : Option (Unit × kM) :=
  F_89_2 T 0 M
set_option maxHeartbeats 1000000 in
theorem D_89 {G : kG} {d : Nat} {A : kLb → Nat} {T : kT} {M : kM} {h : kH} {z : (Unit × kM)} (R : kRl A T M h) (hF : F_89 T  M = some z) : kRun G (d + 2) 89 [.ref (A lTs)] h 0 0 (kPV A T z) := by
  refine ⟨⟨rfl, Nat.le_of_ble_eq_true rfl⟩, ?_⟩
  show kWP _ _ (kRun G (d + 1)) _ 0 [some (.ref (A lTs)), none, none] [] _ _ _
  have K : (fun z : (Unit × kM) => ∀ h1, kRl A T z.2 h1 → kPV A T z (.inl none) h1) z := fun _ q => ⟨rfl, q⟩
  unfold F_89 at hF
  refine k_iconst (pc := 0) (v := 0) i_89_0 (by decide) ?_
  refine k_istore_n (pc := 1) (lo2 := [some (.ref (A lTs)), some (.int 0), none]) i_89_1 (Nat.le_of_ble_eq_true rfl) rfl ?_
  exact W_89_2 (d := d) rfl R K hF
