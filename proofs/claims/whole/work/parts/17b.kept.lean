-- 20: RD$Kept empty
noncomputable def F_20 (T : kT) (a0 : Nat) (a1 : Int32) (M : kM) : Option (Unit × kM) :=
  kGd (kLv T (lTm a0)) (some ((), sp (sp M (lKp a0) 2 a1) (lKp a0) 3 0))
set_option maxHeartbeats 1000000 in
theorem D_20 {G : kG} {d : Nat} {A : kLb → Nat} {T : kT} {M : kM} {h : kH} {a0 : Nat} {a1 : Int32} {z : (Unit × kM)} (R : kRl A T M h) (hF : F_20 T a0 a1 M = some z) : kRun G (d + 1) 20 [.ref (A (lKp a0)), .int a1] h 0 0 (kPV A T z) := by
  refine ⟨⟨rfl, Nat.le_of_ble_eq_true rfl⟩, ?_⟩
  show kWP _ _ (kRun G (d + 0)) _ 0 [some (.ref (A (lKp a0))), some (.int a1)] [] _ _ _
  have K : (fun z : (Unit × kM) => ∀ h1, kRl A T z.2 h1 → kPV A T z (.inl none) h1) z := fun _ q => ⟨rfl, q⟩
  unfold F_20 at hF
  refine k_aload_n (pc := 0) i_20_0 rfl rfl ?_
  refine k_iload_n (pc := 1) i_20_1 rfl ?_
  obtain ⟨g1, hF⟩ := kGd_el hF
  refine k_putf (pc := 2) i_20_2 f_1_18 (rd_Kp (i := a0) R g1) (by decide +kernel) (Nat.le_of_ble_eq_true rfl) rfl rfl rfl (fun h e2 => ?_)
  replace R := kRl_sp (l := (lKp a0)) (k := 2) (v := a1) R g1 e2
  clear e2
  refine k_aload_n (pc := 5) i_20_5 rfl rfl ?_
  refine k_iconst (pc := 6) (v := 0) i_20_6 (by decide) ?_
  refine k_putf (pc := 7) i_20_7 f_1_22 (rd_Kp (i := a0) R g1) (by decide +kernel) (Nat.le_of_ble_eq_true rfl) rfl rfl rfl (fun h e3 => ?_)
  replace R := kRl_sp (l := (lKp a0)) (k := 3) (v := 0) R g1 e3
  clear e3
  obtain rfl := Option.some.inj hF
  exact k_return (pc := 10) i_20_10 rfl (K _ R)
-- 21: RD$Kept valueAt
noncomputable def F_21 (T : kT) (a0 : Nat) (a1 : Int32) (a2 : Int32) (M : kM) : Option (Int32 × kM) :=
  if a1 < 0 then (some (0, M)) else (kGd (kLv T (lTm a0)) (if (gp M (lKp a0) 3) ≤ a1 then (some (0, M)) else (if a2 < 0 then (some (0, M)) else (if (gp M (lKp a0) 2) ≤ a2 then (some (0, M)) else (kGx a1 150 (kGx (((gp M (lKo a0) a1.toNatClampNeg) * 12) + a2) 1800 (some (gp M (lKc a0) (((gp M (lKo a0) a1.toNatClampNeg) * 12) + a2).toNatClampNeg, M))))))))
set_option maxHeartbeats 1000000 in
theorem D_21 {G : kG} {d : Nat} {A : kLb → Nat} {T : kT} {M : kM} {h : kH} {a0 : Nat} {a1 : Int32} {a2 : Int32} {z : (Int32 × kM)} (R : kRl A T M h) (hF : F_21 T a0 a1 a2 M = some z) : kRun G (d + 1) 21 [.ref (A (lKp a0)), .int a1, .int a2] h 0 0 (kPI A T z) := by
  refine ⟨⟨rfl, Nat.le_of_ble_eq_true rfl⟩, ?_⟩
  show kWP _ _ (kRun G (d + 0)) _ 0 [some (.ref (A (lKp a0))), some (.int a1), some (.int a2)] [] _ _ _
  have K : (fun z : (Int32 × kM) => ∀ h1, kRl A T z.2 h1 → kPI A T z (.inl (some (.int z.1))) h1) z := fun _ q => ⟨rfl, q⟩
  unfold F_21 at hF
  refine k_iload_n (pc := 0) i_21_0 rfl ?_
  refine k_if_lt (pc := 1) (tgt := 43) i_21_1 (by decide) (fun c1 => ?_) (fun c1 => ?_)
  · rw [if_pos c1] at hF
    refine k_iconst (pc := 43) (v := 0) i_21_43 (by decide) ?_
    obtain rfl := Option.some.inj hF
    exact k_ireturn (pc := 44) i_21_44 rfl rfl (K _ R)
  · rw [if_neg c1] at hF
    refine k_iload_n (pc := 4) i_21_4 rfl ?_
    refine k_aload_n (pc := 5) i_21_5 rfl rfl ?_
    obtain ⟨g2, hF⟩ := kGd_el hF
    refine k_getf (pc := 6) i_21_6 f_1_22 (rd_Kp (i := a0) R g2) rfl ?_
    refine k_icmp_ge (pc := 9) (tgt := 43) i_21_9 (by decide) (fun c3 => ?_) (fun c3 => ?_)
    · rw [if_pos c3] at hF
      refine k_iconst (pc := 43) (v := 0) i_21_43 (by decide) ?_
      obtain rfl := Option.some.inj hF
      exact k_ireturn (pc := 44) i_21_44 rfl rfl (K _ R)
    · rw [if_neg c3] at hF
      refine k_iload_n (pc := 12) i_21_12 rfl ?_
      refine k_if_lt (pc := 13) (tgt := 43) i_21_13 (by decide) (fun c4 => ?_) (fun c4 => ?_)
      · rw [if_pos c4] at hF
        refine k_iconst (pc := 43) (v := 0) i_21_43 (by decide) ?_
        obtain rfl := Option.some.inj hF
        exact k_ireturn (pc := 44) i_21_44 rfl rfl (K _ R)
      · rw [if_neg c4] at hF
        refine k_iload_n (pc := 16) i_21_16 rfl ?_
        refine k_aload_n (pc := 17) i_21_17 rfl rfl ?_
        refine k_getf (pc := 18) i_21_18 f_1_18 (rd_Kp (i := a0) R g2) rfl ?_
        refine k_icmp_ge (pc := 21) (tgt := 43) i_21_21 (by decide) (fun c5 => ?_) (fun c5 => ?_)
        · rw [if_pos c5] at hF
          refine k_iconst (pc := 43) (v := 0) i_21_43 (by decide) ?_
          obtain rfl := Option.some.inj hF
          exact k_ireturn (pc := 44) i_21_44 rfl rfl (K _ R)
        · rw [if_neg c5] at hF
          refine k_aload_n (pc := 24) i_21_24 rfl rfl ?_
          refine k_getf (pc := 25) i_21_25 f_1_9 (rd_Kp (i := a0) R g2) rfl ?_
          refine k_aload_n (pc := 28) i_21_28 rfl rfl ?_
          refine k_getf (pc := 29) i_21_29 f_1_15 (rd_Kp (i := a0) R g2) rfl ?_
          refine k_iload_n (pc := 32) i_21_32 rfl ?_
          obtain ⟨g6, hF⟩ := kGx_el hF
          refine k_iald (pc := 33) i_21_33 (rd_Ko (i := a0) R g2) g6 ?_
          refine k_bipush (pc := 34) (v := 12) i_21_34 (by decide) ?_
          refine k_imul (pc := 36) i_21_36 ?_
          refine k_iload_n (pc := 37) i_21_37 rfl ?_
          refine k_iadd (pc := 38) i_21_38 ?_
          obtain ⟨g7, hF⟩ := kGx_el hF
          refine k_iald (pc := 39) i_21_39 (rd_Kc (i := a0) R g2) g7 ?_
          refine k_goto (pc := 40) (tgt := 44) i_21_40 (by decide) ?_
          obtain rfl := Option.some.inj hF
          exact k_ireturn (pc := 44) i_21_44 rfl rfl (K _ R)
-- 22: RD$Kept setAt
noncomputable def F_22 (T : kT) (a0 : Nat) (a1 : Int32) (a2 : Int32) (a3 : Int32) (M : kM) : Option (Unit × kM) :=
  if a1 < 0 then (some ((), M)) else (kGd (kLv T (lTm a0)) (if (gp M (lKp a0) 3) ≤ a1 then (some ((), M)) else (if a2 < 0 then (some ((), M)) else (if (gp M (lKp a0) 2) ≤ a2 then (some ((), M)) else (kGx a1 150 (kGx (((gp M (lKo a0) a1.toNatClampNeg) * 12) + a2) 1800 (some ((), sp M (lKc a0) (((gp M (lKo a0) a1.toNatClampNeg) * 12) + a2).toNatClampNeg a3))))))))
set_option maxHeartbeats 1000000 in
theorem D_22 {G : kG} {d : Nat} {A : kLb → Nat} {T : kT} {M : kM} {h : kH} {a0 : Nat} {a1 : Int32} {a2 : Int32} {a3 : Int32} {z : (Unit × kM)} (R : kRl A T M h) (hF : F_22 T a0 a1 a2 a3 M = some z) : kRun G (d + 1) 22 [.ref (A (lKp a0)), .int a1, .int a2, .int a3] h 0 0 (kPV A T z) := by
  refine ⟨⟨rfl, Nat.le_of_ble_eq_true rfl⟩, ?_⟩
  show kWP _ _ (kRun G (d + 0)) _ 0 [some (.ref (A (lKp a0))), some (.int a1), some (.int a2), some (.int a3)] [] _ _ _
  have K : (fun z : (Unit × kM) => ∀ h1, kRl A T z.2 h1 → kPV A T z (.inl none) h1) z := fun _ q => ⟨rfl, q⟩
  unfold F_22 at hF
  refine k_iload_n (pc := 0) i_22_0 rfl ?_
  refine k_if_lt (pc := 1) (tgt := 41) i_22_1 (by decide) (fun c1 => ?_) (fun c1 => ?_)
  · rw [if_pos c1] at hF
    obtain rfl := Option.some.inj hF
    exact k_return (pc := 41) i_22_41 rfl (K _ R)
  · rw [if_neg c1] at hF
    refine k_iload_n (pc := 4) i_22_4 rfl ?_
    refine k_aload_n (pc := 5) i_22_5 rfl rfl ?_
    obtain ⟨g2, hF⟩ := kGd_el hF
    refine k_getf (pc := 6) i_22_6 f_1_22 (rd_Kp (i := a0) R g2) rfl ?_
    refine k_icmp_ge (pc := 9) (tgt := 41) i_22_9 (by decide) (fun c3 => ?_) (fun c3 => ?_)
    · rw [if_pos c3] at hF
      obtain rfl := Option.some.inj hF
      exact k_return (pc := 41) i_22_41 rfl (K _ R)
    · rw [if_neg c3] at hF
      refine k_iload_n (pc := 12) i_22_12 rfl ?_
      refine k_if_lt (pc := 13) (tgt := 41) i_22_13 (by decide) (fun c4 => ?_) (fun c4 => ?_)
      · rw [if_pos c4] at hF
        obtain rfl := Option.some.inj hF
        exact k_return (pc := 41) i_22_41 rfl (K _ R)
      · rw [if_neg c4] at hF
        refine k_iload_n (pc := 16) i_22_16 rfl ?_
        refine k_aload_n (pc := 17) i_22_17 rfl rfl ?_
        refine k_getf (pc := 18) i_22_18 f_1_18 (rd_Kp (i := a0) R g2) rfl ?_
        refine k_icmp_ge (pc := 21) (tgt := 41) i_22_21 (by decide) (fun c5 => ?_) (fun c5 => ?_)
        · rw [if_pos c5] at hF
          obtain rfl := Option.some.inj hF
          exact k_return (pc := 41) i_22_41 rfl (K _ R)
        · rw [if_neg c5] at hF
          refine k_aload_n (pc := 24) i_22_24 rfl rfl ?_
          refine k_getf (pc := 25) i_22_25 f_1_9 (rd_Kp (i := a0) R g2) rfl ?_
          refine k_aload_n (pc := 28) i_22_28 rfl rfl ?_
          refine k_getf (pc := 29) i_22_29 f_1_15 (rd_Kp (i := a0) R g2) rfl ?_
          refine k_iload_n (pc := 32) i_22_32 rfl ?_
          obtain ⟨g6, hF⟩ := kGx_el hF
          refine k_iald (pc := 33) i_22_33 (rd_Ko (i := a0) R g2) g6 ?_
          refine k_bipush (pc := 34) (v := 12) i_22_34 (by decide) ?_
          refine k_imul (pc := 36) i_22_36 ?_
          refine k_iload_n (pc := 37) i_22_37 rfl ?_
          refine k_iadd (pc := 38) i_22_38 ?_
          refine k_iload_n (pc := 39) i_22_39 rfl ?_
          obtain ⟨g7, hF⟩ := kGx_el hF
          refine k_iast (pc := 40) i_22_40 (rd_Kc (i := a0) R g2) g7 (fun h e8 => ?_)
          replace R := kRl_sp (l := (lKc a0)) (k := (((gp M (lKo a0) a1.toNatClampNeg) * 12) + a2).toNatClampNeg) (v := a3) R g2 e8
          clear e8
          obtain rfl := Option.some.inj hF
          exact k_return (pc := 41) i_22_41 rfl (K _ R)
-- 23: RD$Kept copyRow
noncomputable def F_23 (T : kT) (a0 : Nat) (a1 : Int32) (a2 : kLb) (M : kM) : Option (Unit × kM) :=
  if a1 < 0 then (some ((), M)) else (kGd (kLv T (lTm a0)) (if (gp M (lKp a0) 3) ≤ a1 then (some ((), M)) else (kGd (kLv T a2) (kGd (kisI a2) (if (nI (klen a2)) < (gp M (lKp a0) 2) then (some ((), M)) else (kGx a1 150 (kGd (kCk ((gp M (lKo a0) a1.toNatClampNeg) * 12) 0 (gp M (lKp a0) 2) 1800 (klen a2)) (some ((), sa M a2 (va_cpy (gp M (lKc a0)) (gp M a2) ((gp M (lKo a0) a1.toNatClampNeg) * 12).toNatClampNeg (0 : Int32).toNatClampNeg (gp M (lKp a0) 2).toNatClampNeg))))))))))
set_option maxHeartbeats 1000000 in
theorem D_23 {G : kG} {d : Nat} {A : kLb → Nat} {T : kT} {M : kM} {h : kH} {a0 : Nat} {a1 : Int32} {a2 : kLb} {z : (Unit × kM)} (R : kRl A T M h) (hF : F_23 T a0 a1 a2 M = some z) : kRun G (d + 1) 23 [.ref (A (lKp a0)), .int a1, .ref (A a2)] h 0 0 (kPV A T z) := by
  refine ⟨⟨rfl, Nat.le_of_ble_eq_true rfl⟩, ?_⟩
  show kWP _ _ (kRun G (d + 0)) _ 0 [some (.ref (A (lKp a0))), some (.int a1), some (.ref (A a2))] [] _ _ _
  have K : (fun z : (Unit × kM) => ∀ h1, kRl A T z.2 h1 → kPV A T z (.inl none) h1) z := fun _ q => ⟨rfl, q⟩
  unfold F_23 at hF
  refine k_iload_n (pc := 0) i_23_0 rfl ?_
  refine k_if_lt (pc := 1) (tgt := 43) i_23_1 (by decide) (fun c1 => ?_) (fun c1 => ?_)
  · rw [if_pos c1] at hF
    obtain rfl := Option.some.inj hF
    exact k_return (pc := 43) i_23_43 rfl (K _ R)
  · rw [if_neg c1] at hF
    refine k_iload_n (pc := 4) i_23_4 rfl ?_
    refine k_aload_n (pc := 5) i_23_5 rfl rfl ?_
    obtain ⟨g2, hF⟩ := kGd_el hF
    refine k_getf (pc := 6) i_23_6 f_1_22 (rd_Kp (i := a0) R g2) rfl ?_
    refine k_icmp_ge (pc := 9) (tgt := 43) i_23_9 (by decide) (fun c3 => ?_) (fun c3 => ?_)
    · rw [if_pos c3] at hF
      obtain rfl := Option.some.inj hF
      exact k_return (pc := 43) i_23_43 rfl (K _ R)
    · rw [if_neg c3] at hF
      refine k_aload_n (pc := 12) i_23_12 rfl rfl ?_
      obtain ⟨g4, hF⟩ := kGd_el hF
      obtain ⟨g5, hF⟩ := kGd_el hF
      refine k_alen (pc := 13) (v := nI (klen a2)) i_23_13 (rd_L R g4 g5) (by decide) rfl ?_
      refine k_aload_n (pc := 14) i_23_14 rfl rfl ?_
      refine k_getf (pc := 15) i_23_15 f_1_18 (rd_Kp (i := a0) R g2) rfl ?_
      refine k_icmp_lt (pc := 18) (tgt := 43) i_23_18 (by decide) (fun c6 => ?_) (fun c6 => ?_)
      · rw [if_pos c6] at hF
        obtain rfl := Option.some.inj hF
        exact k_return (pc := 43) i_23_43 rfl (K _ R)
      · rw [if_neg c6] at hF
        refine k_aload_n (pc := 21) i_23_21 rfl rfl ?_
        refine k_getf (pc := 22) i_23_22 f_1_9 (rd_Kp (i := a0) R g2) rfl ?_
        refine k_aload_n (pc := 25) i_23_25 rfl rfl ?_
        refine k_getf (pc := 26) i_23_26 f_1_15 (rd_Kp (i := a0) R g2) rfl ?_
        refine k_iload_n (pc := 29) i_23_29 rfl ?_
        obtain ⟨g7, hF⟩ := kGx_el hF
        refine k_iald (pc := 30) i_23_30 (rd_Ko (i := a0) R g2) g7 ?_
        refine k_bipush (pc := 31) (v := 12) i_23_31 (by decide) ?_
        refine k_imul (pc := 33) i_23_33 ?_
        refine k_aload_n (pc := 34) i_23_34 rfl rfl ?_
        refine k_iconst (pc := 35) (v := 0) i_23_35 (by decide) ?_
        refine k_aload_n (pc := 36) i_23_36 rfl rfl ?_
        refine k_getf (pc := 37) i_23_37 f_1_18 (rd_Kp (i := a0) R g2) rfl ?_
        obtain ⟨g8, hF⟩ := kGd_el hF
        obtain ⟨g81, g82, g83, g84, g85⟩ := kCk_el g8
        refine k_copyi (pc := 40) i_23_40 x_1_25 (rd_Kc (i := a0) R g2) (rd_L R g4 g5) g81 g82 g83 g84 g85 (Nat.le_of_ble_eq_true rfl) (fun h e9 => ?_)
        replace R := kRl_sa_L R g4 g5 e9
        clear e9
        obtain rfl := Option.some.inj hF
        exact k_return (pc := 43) i_23_43 rfl (K _ R)
-- 24: RD$Kept add
noncomputable def F_24 (T : kT) (a0 : Nat) (a1 : kLb) (M : kM) : Option (Int32 × kM) :=
  kGd (kLv T (lTm a0)) (if 150 ≤ (gp M (lKp a0) 3) then (some (0, M)) else (kGd (kLv T a1) (kGd (kisI a1) (if (gp M (lKp a0) 2) ≤ (nI (klen a1)) then (kGd (kCk 0 ((gp M (lKp a0) 3) * 12) (gp M (lKp a0) 2) (klen a1) 1800) (kGx (gp (sa M (lKc a0) (va_cpy (gp M a1) (gp M (lKc a0)) (0 : Int32).toNatClampNeg ((gp M (lKp a0) 3) * 12).toNatClampNeg (gp M (lKp a0) 2).toNatClampNeg)) (lKp a0) 3) 150 (some (1, sp (sp (sa M (lKc a0) (va_cpy (gp M a1) (gp M (lKc a0)) (0 : Int32).toNatClampNeg ((gp M (lKp a0) 3) * 12).toNatClampNeg (gp M (lKp a0) 2).toNatClampNeg)) (lKo a0) (gp (sa M (lKc a0) (va_cpy (gp M a1) (gp M (lKc a0)) (0 : Int32).toNatClampNeg ((gp M (lKp a0) 3) * 12).toNatClampNeg (gp M (lKp a0) 2).toNatClampNeg)) (lKp a0) 3).toNatClampNeg (gp (sa M (lKc a0) (va_cpy (gp M a1) (gp M (lKc a0)) (0 : Int32).toNatClampNeg ((gp M (lKp a0) 3) * 12).toNatClampNeg (gp M (lKp a0) 2).toNatClampNeg)) (lKp a0) 3)) (lKp a0) 3 ((gp (sp (sa M (lKc a0) (va_cpy (gp M a1) (gp M (lKc a0)) (0 : Int32).toNatClampNeg ((gp M (lKp a0) 3) * 12).toNatClampNeg (gp M (lKp a0) 2).toNatClampNeg)) (lKo a0) (gp (sa M (lKc a0) (va_cpy (gp M a1) (gp M (lKc a0)) (0 : Int32).toNatClampNeg ((gp M (lKp a0) 3) * 12).toNatClampNeg (gp M (lKp a0) 2).toNatClampNeg)) (lKp a0) 3).toNatClampNeg (gp (sa M (lKc a0) (va_cpy (gp M a1) (gp M (lKc a0)) (0 : Int32).toNatClampNeg ((gp M (lKp a0) 3) * 12).toNatClampNeg (gp M (lKp a0) 2).toNatClampNeg)) (lKp a0) 3)) (lKp a0) 3) + 1))))) else (some (0, M))))))
set_option maxHeartbeats 1000000 in
theorem D_24 {G : kG} {d : Nat} {A : kLb → Nat} {T : kT} {M : kM} {h : kH} {a0 : Nat} {a1 : kLb} {z : (Int32 × kM)} (R : kRl A T M h) (hF : F_24 T a0 a1 M = some z) : kRun G (d + 1) 24 [.ref (A (lKp a0)), .ref (A a1)] h 0 0 (kPI A T z) := by
  refine ⟨⟨rfl, Nat.le_of_ble_eq_true rfl⟩, ?_⟩
  show kWP _ _ (kRun G (d + 0)) _ 0 [some (.ref (A (lKp a0))), some (.ref (A a1))] [] _ _ _
  have K : (fun z : (Int32 × kM) => ∀ h1, kRl A T z.2 h1 → kPI A T z (.inl (some (.int z.1))) h1) z := fun _ q => ⟨rfl, q⟩
  unfold F_24 at hF
  refine k_aload_n (pc := 0) i_24_0 rfl rfl ?_
  obtain ⟨g1, hF⟩ := kGd_el hF
  refine k_getf (pc := 1) i_24_1 f_1_22 (rd_Kp (i := a0) R g1) rfl ?_
  refine k_sipush (pc := 4) (v := 150) i_24_4 (by decide) ?_
  refine k_icmp_ge (pc := 7) (tgt := 19) i_24_7 (by decide) (fun c2 => ?_) (fun c2 => ?_)
  · rw [if_pos c2] at hF
    refine k_iconst (pc := 19) (v := 0) i_24_19 (by decide) ?_
    obtain rfl := Option.some.inj hF
    exact k_ireturn (pc := 20) i_24_20 rfl rfl (K _ R)
  · rw [if_neg c2] at hF
    refine k_aload_n (pc := 10) i_24_10 rfl rfl ?_
    obtain ⟨g3, hF⟩ := kGd_el hF
    obtain ⟨g4, hF⟩ := kGd_el hF
    refine k_alen (pc := 11) (v := nI (klen a1)) i_24_11 (rd_L R g3 g4) (by decide) rfl ?_
    refine k_aload_n (pc := 12) i_24_12 rfl rfl ?_
    refine k_getf (pc := 13) i_24_13 f_1_18 (rd_Kp (i := a0) R g1) rfl ?_
    refine k_icmp_ge (pc := 16) (tgt := 21) i_24_16 (by decide) (fun c5 => ?_) (fun c5 => ?_)
    · rw [if_pos c5] at hF
      refine k_aload_n (pc := 21) i_24_21 rfl rfl ?_
      refine k_iconst (pc := 22) (v := 0) i_24_22 (by decide) ?_
      refine k_aload_n (pc := 23) i_24_23 rfl rfl ?_
      refine k_getf (pc := 24) i_24_24 f_1_9 (rd_Kp (i := a0) R g1) rfl ?_
      refine k_aload_n (pc := 27) i_24_27 rfl rfl ?_
      refine k_getf (pc := 28) i_24_28 f_1_22 (rd_Kp (i := a0) R g1) rfl ?_
      refine k_bipush (pc := 31) (v := 12) i_24_31 (by decide) ?_
      refine k_imul (pc := 33) i_24_33 ?_
      refine k_aload_n (pc := 34) i_24_34 rfl rfl ?_
      refine k_getf (pc := 35) i_24_35 f_1_18 (rd_Kp (i := a0) R g1) rfl ?_
      obtain ⟨g6, hF⟩ := kGd_el hF
      obtain ⟨g61, g62, g63, g64, g65⟩ := kCk_el g6
      refine k_copyi (pc := 38) i_24_38 x_1_25 (rd_L R g3 g4) (rd_Kc (i := a0) R g1) g61 g62 g63 g64 g65 (Nat.le_of_ble_eq_true rfl) (fun h e7 => ?_)
      replace R := kRl_sa (l := (lKc a0)) (f := va_cpy (gp M a1) (gp M (lKc a0)) (0 : Int32).toNatClampNeg ((gp M (lKp a0) 3) * 12).toNatClampNeg (gp M (lKp a0) 2).toNatClampNeg) R g1 e7
      clear e7
      refine k_aload_n (pc := 41) i_24_41 rfl rfl ?_
      refine k_getf (pc := 42) i_24_42 f_1_15 (rd_Kp (i := a0) R g1) rfl ?_
      refine k_aload_n (pc := 45) i_24_45 rfl rfl ?_
      refine k_getf (pc := 46) i_24_46 f_1_22 (rd_Kp (i := a0) R g1) rfl ?_
      refine k_aload_n (pc := 49) i_24_49 rfl rfl ?_
      refine k_getf (pc := 50) i_24_50 f_1_22 (rd_Kp (i := a0) R g1) rfl ?_
      obtain ⟨g8, hF⟩ := kGx_el hF
      refine k_iast (pc := 53) i_24_53 (rd_Ko (i := a0) R g1) g8 (fun h e9 => ?_)
      replace R := kRl_sp (l := (lKo a0)) (k := (gp (sa M (lKc a0) (va_cpy (gp M a1) (gp M (lKc a0)) (0 : Int32).toNatClampNeg ((gp M (lKp a0) 3) * 12).toNatClampNeg (gp M (lKp a0) 2).toNatClampNeg)) (lKp a0) 3).toNatClampNeg) (v := gp (sa M (lKc a0) (va_cpy (gp M a1) (gp M (lKc a0)) (0 : Int32).toNatClampNeg ((gp M (lKp a0) 3) * 12).toNatClampNeg (gp M (lKp a0) 2).toNatClampNeg)) (lKp a0) 3) R g1 e9
      clear e9
      refine k_aload_n (pc := 54) i_24_54 rfl rfl ?_
      refine k_dup (pc := 55) i_24_55 rfl ?_
      refine k_getf (pc := 56) i_24_56 f_1_22 (rd_Kp (i := a0) R g1) rfl ?_
      refine k_iconst (pc := 59) (v := 1) i_24_59 (by decide) ?_
      refine k_iadd (pc := 60) i_24_60 ?_
      refine k_putf (pc := 61) i_24_61 f_1_22 (rd_Kp (i := a0) R g1) (by decide +kernel) (Nat.le_of_ble_eq_true rfl) rfl rfl rfl (fun h e10 => ?_)
      replace R := kRl_sp (l := (lKp a0)) (k := 3) (v := (gp (sp (sa M (lKc a0) (va_cpy (gp M a1) (gp M (lKc a0)) (0 : Int32).toNatClampNeg ((gp M (lKp a0) 3) * 12).toNatClampNeg (gp M (lKp a0) 2).toNatClampNeg)) (lKo a0) (gp (sa M (lKc a0) (va_cpy (gp M a1) (gp M (lKc a0)) (0 : Int32).toNatClampNeg ((gp M (lKp a0) 3) * 12).toNatClampNeg (gp M (lKp a0) 2).toNatClampNeg)) (lKp a0) 3).toNatClampNeg (gp (sa M (lKc a0) (va_cpy (gp M a1) (gp M (lKc a0)) (0 : Int32).toNatClampNeg ((gp M (lKp a0) 3) * 12).toNatClampNeg (gp M (lKp a0) 2).toNatClampNeg)) (lKp a0) 3)) (lKp a0) 3) + 1) R g1 e10
      clear e10
      refine k_iconst (pc := 64) (v := 1) i_24_64 (by decide) ?_
      obtain rfl := Option.some.inj hF
      exact k_ireturn (pc := 65) i_24_65 rfl rfl (K _ R)
    · rw [if_neg c5] at hF
      refine k_iconst (pc := 19) (v := 0) i_24_19 (by decide) ?_
      obtain rfl := Option.some.inj hF
      exact k_ireturn (pc := 20) i_24_20 rfl rfl (K _ R)
-- 26: RD$Kept isLater
noncomputable def F_26 (T : kT) (a0 : Int32) (a1 : Int32) (a2 : Int32) (M : kM) : Option (Int32 × kM) :=
  if a2 = 1 then (if a1 ≤ a0 then (some (0, M)) else (some (1, M))) else (if a0 ≤ a1 then (some (0, M)) else (some (1, M)))
set_option maxHeartbeats 1000000 in
theorem D_26 {G : kG} {d : Nat} {A : kLb → Nat} {T : kT} {M : kM} {h : kH} {a0 : Int32} {a1 : Int32} {a2 : Int32} {z : (Int32 × kM)} (R : kRl A T M h) (hF : F_26 T a0 a1 a2 M = some z) : kRun G (d + 1) 26 [.int a0, .int a1, .int a2] h 0 0 (kPI A T z) := by
  refine ⟨⟨rfl, Nat.le_of_ble_eq_true rfl⟩, ?_⟩
  show kWP _ _ (kRun G (d + 0)) _ 0 [some (.int a0), some (.int a1), some (.int a2)] [] _ _ _
  have K : (fun z : (Int32 × kM) => ∀ h1, kRl A T z.2 h1 → kPI A T z (.inl (some (.int z.1))) h1) z := fun _ q => ⟨rfl, q⟩
  unfold F_26 at hF
  refine k_iload_n (pc := 0) i_26_0 rfl ?_
  refine k_iconst (pc := 1) (v := 1) i_26_1 (by decide) ?_
  refine k_icmp_ne (pc := 2) (tgt := 18) i_26_2 (by decide) (fun c1 => ?_) (fun c1 => ?_)
  · rw [if_neg c1] at hF
    refine k_iload_n (pc := 18) i_26_18 rfl ?_
    refine k_iload_n (pc := 19) i_26_19 rfl ?_
    refine k_icmp_le (pc := 20) (tgt := 27) i_26_20 (by decide) (fun c2 => ?_) (fun c2 => ?_)
    · rw [if_pos c2] at hF
      refine k_iconst (pc := 27) (v := 0) i_26_27 (by decide) ?_
      obtain rfl := Option.some.inj hF
      exact k_ireturn (pc := 28) i_26_28 rfl rfl (K _ R)
    · rw [if_neg c2] at hF
      refine k_iconst (pc := 23) (v := 1) i_26_23 (by decide) ?_
      refine k_goto (pc := 24) (tgt := 28) i_26_24 (by decide) ?_
      obtain rfl := Option.some.inj hF
      exact k_ireturn (pc := 28) i_26_28 rfl rfl (K _ R)
  · rw [if_pos c1] at hF
    refine k_iload_n (pc := 5) i_26_5 rfl ?_
    refine k_iload_n (pc := 6) i_26_6 rfl ?_
    refine k_icmp_ge (pc := 7) (tgt := 14) i_26_7 (by decide) (fun c3 => ?_) (fun c3 => ?_)
    · rw [if_pos c3] at hF
      refine k_iconst (pc := 14) (v := 0) i_26_14 (by decide) ?_
      refine k_goto (pc := 15) (tgt := 28) i_26_15 (by decide) ?_
      obtain rfl := Option.some.inj hF
      exact k_ireturn (pc := 28) i_26_28 rfl rfl (K _ R)
    · rw [if_neg c3] at hF
      refine k_iconst (pc := 10) (v := 1) i_26_10 (by decide) ?_
      refine k_goto (pc := 11) (tgt := 28) i_26_11 (by decide) ?_
      obtain rfl := Option.some.inj hF
      exact k_ireturn (pc := 28) i_26_28 rfl rfl (K _ R)
-- 25: RD$Kept addSorted
noncomputable def B_25_18 (T : kT) (a0 : Nat) (a2 : Int32) (a3 : Int32) (a4 : Int32) (M : kM) : Option ((Int32 × kM) ⊕ (Int32 × kM)) :=
  if a4 ≤ 0 then (some (.inr ((1, M)))) else (kGd (kLv T (lTm a0)) (kBd (F_21 T a0 (a4 - 1) a2 M) (fun r8 M9 => kBd (F_21 T a0 a4 a2 M9) (fun r11 M12 => kBd (F_26 T r8 r11 a3 M12) (fun r14 M15 => if r14 = 0 then (some (.inr ((1, M15)))) else (kGx a4 150 (kGx (a4 - 1) 150 (kGx a4 150 (kGx (a4 - 1) 150 (some (.inl ((a4 + (-1)), sp (sp M15 (lKo a0) a4.toNatClampNeg (gp M15 (lKo a0) (a4 - 1).toNatClampNeg)) (lKo a0) (a4 - 1).toNatClampNeg (gp M15 (lKo a0) a4.toNatClampNeg)))))))))))))
noncomputable def F_25_18 (T : kT) (a0 : Nat) (a2 : Int32) (a3 : Int32) (a4 : Int32) (M : kM) : Option (Int32 × kM) :=
  kWh (fun w : (Int32 × kM) => B_25_18 T a0 a2 a3 w.1 w.2) (a4, M)
theorem F_25_18_eq (T : kT) (a0 : Nat) (a2 : Int32) (a3 : Int32) (a4 : Int32) (M : kM) : F_25_18 T a0 a2 a3 a4 M = kAg (B_25_18 T a0 a2 a3 a4 M) (fun w => F_25_18 T a0 a2 a3 w.1 w.2) := by
  unfold F_25_18
  rw [kWh_eq]
set_option maxHeartbeats 1000000 in
theorem W_25_18 {G : kG} {d : Nat} {A : kLb → Nat} {C : kCl} {P : kO → kH → Prop} {T : kT} {M : kM} {h : kH} {a0 : Nat} {a2 : Int32} {a3 : Int32} {a4 : Int32} {b1 b5 : Option Value} {z : (Int32 × kM)} (hC : C = kRun G (d + 1)) (R : kRl A T M h) (K : (fun z : (Int32 × kM) => ∀ h1, kRl A T z.2 h1 → P (.inl (some (.int z.1))) h1) z) (hF : F_25_18 T a0 a2 a3 a4 M = some z) : kWP G 25 C P 18 [some (.ref (A (lKp a0))), b1, some (.int a2), some (.int a3), some (.int a4), b5] [] h 0 0 := by
  refine kWh_ind (P := (fun w : (Int32 × kM) => ∀ (h : kH) (b1 b5 : Option Value), kRl A T w.2 h → kWP G 25 C P 18 [some (.ref (A (lKp a0))), b1, some (.int a2), some (.int a3), some (.int w.1), b5] [] h 0 0)) (Q := (fun z : (Int32 × kM) => ∀ h1, kRl A T z.2 h1 → P (.inl (some (.int z.1))) h1)) hF K ?_ h _ _ R
  clear hF K R
  intro w z hF K h b1 b5 R
  obtain ⟨a4, M⟩ := w
  change B_25_18 T a0 a2 a3 a4 M = some z at hF
  change kWP G 25 C P 18 [some (.ref (A (lKp a0))), b1, some (.int a2), some (.int a3), some (.int a4), b5] [] h 0 0
  unfold B_25_18 at hF
  refine k_iload (pc := 18) i_25_18 rfl ?_
  refine k_if_le (pc := 20) (tgt := 88) i_25_20 (by decide) (fun c6 => ?_) (fun c6 => ?_)
  · rw [if_pos c6] at hF
    refine k_iconst (pc := 88) (v := 1) i_25_88 (by decide) ?_
    obtain rfl := Option.some.inj hF
    exact k_ireturn (pc := 89) i_25_89 rfl rfl (K _ R)
  · rw [if_neg c6] at hF
    refine k_aload_n (pc := 23) i_25_23 rfl rfl ?_
    refine k_iload (pc := 24) i_25_24 rfl ?_
    refine k_iconst (pc := 26) (v := 1) i_25_26 (by decide) ?_
    refine k_isub (pc := 27) i_25_27 ?_
    refine k_iload_n (pc := 28) i_25_28 rfl ?_
    obtain ⟨g7, hF⟩ := kGd_el hF
    obtain ⟨r8, M9, q10, hF⟩ := kBd_el hF
    refine kcv_I (pc := 29) (As := [.ref (A (lKp a0)), .int (a4 - 1), .int a2]) (st := []) (A := A) (T := T) (r := r8) (M1 := M9) i_25_29 m_1_35 rfl rfl rfl rfl (rd_Kp (i := a0) R g7) rfl (Nat.le_of_ble_eq_true rfl) (hC ▸ D_21 R q10) (fun h R => ?_)
    refine k_aload_n (pc := 32) i_25_32 rfl rfl ?_
    refine k_iload (pc := 33) i_25_33 rfl ?_
    refine k_iload_n (pc := 35) i_25_35 rfl ?_
    obtain ⟨r11, M12, q13, hF⟩ := kBd_el hF
    refine kcv_I (pc := 36) (As := [.ref (A (lKp a0)), .int a4, .int a2]) (st := [.int r8]) (A := A) (T := T) (r := r11) (M1 := M12) i_25_36 m_1_35 rfl rfl rfl rfl (rd_Kp (i := a0) R g7) rfl (Nat.le_of_ble_eq_true rfl) (hC ▸ D_21 R q13) (fun h R => ?_)
    refine k_iload_n (pc := 39) i_25_39 rfl ?_
    obtain ⟨r14, M15, q16, hF⟩ := kBd_el hF
    refine kcs_I (pc := 40) (As := [.int r8, .int r11, .int a3]) (st := []) (A := A) (T := T) (r := r14) (M1 := M15) i_25_40 m_1_39 rfl rfl rfl (Nat.le_of_ble_eq_true rfl) (hC ▸ D_26 R q16) (fun h R => ?_)
    refine k_if_eq (pc := 43) (tgt := 88) i_25_43 (by decide) (fun c17 => ?_) (fun c17 => ?_)
    · rw [if_pos c17] at hF
      refine k_iconst (pc := 88) (v := 1) i_25_88 (by decide) ?_
      obtain rfl := Option.some.inj hF
      exact k_ireturn (pc := 89) i_25_89 rfl rfl (K _ R)
    · rw [if_neg c17] at hF
      refine k_aload_n (pc := 46) i_25_46 rfl rfl ?_
      refine k_getf (pc := 47) i_25_47 f_1_15 (rd_Kp (i := a0) R g7) rfl ?_
      refine k_iload (pc := 50) i_25_50 rfl ?_
      obtain ⟨g18, hF⟩ := kGx_el hF
      refine k_iald (pc := 52) i_25_52 (rd_Ko (i := a0) R g7) g18 ?_
      refine k_istore (pc := 53) (lo2 := [some (.ref (A (lKp a0))), b1, some (.int a2), some (.int a3), some (.int a4), some (.int (gp M15 (lKo a0) a4.toNatClampNeg))]) i_25_53 (Nat.le_of_ble_eq_true rfl) rfl ?_
      refine k_aload_n (pc := 55) i_25_55 rfl rfl ?_
      refine k_getf (pc := 56) i_25_56 f_1_15 (rd_Kp (i := a0) R g7) rfl ?_
      refine k_iload (pc := 59) i_25_59 rfl ?_
      refine k_aload_n (pc := 61) i_25_61 rfl rfl ?_
      refine k_getf (pc := 62) i_25_62 f_1_15 (rd_Kp (i := a0) R g7) rfl ?_
      refine k_iload (pc := 65) i_25_65 rfl ?_
      refine k_iconst (pc := 67) (v := 1) i_25_67 (by decide) ?_
      refine k_isub (pc := 68) i_25_68 ?_
      obtain ⟨g19, hF⟩ := kGx_el hF
      refine k_iald (pc := 69) i_25_69 (rd_Ko (i := a0) R g7) g19 ?_
      obtain ⟨g20, hF⟩ := kGx_el hF
      refine k_iast (pc := 70) i_25_70 (rd_Ko (i := a0) R g7) g20 (fun h e21 => ?_)
      replace R := kRl_sp (l := (lKo a0)) (k := a4.toNatClampNeg) (v := gp M15 (lKo a0) (a4 - 1).toNatClampNeg) R g7 e21
      clear e21
      refine k_aload_n (pc := 71) i_25_71 rfl rfl ?_
      refine k_getf (pc := 72) i_25_72 f_1_15 (rd_Kp (i := a0) R g7) rfl ?_
      refine k_iload (pc := 75) i_25_75 rfl ?_
      refine k_iconst (pc := 77) (v := 1) i_25_77 (by decide) ?_
      refine k_isub (pc := 78) i_25_78 ?_
      refine k_iload (pc := 79) i_25_79 rfl ?_
      obtain ⟨g22, hF⟩ := kGx_el hF
      refine k_iast (pc := 81) i_25_81 (rd_Ko (i := a0) R g7) g22 (fun h e23 => ?_)
      replace R := kRl_sp (l := (lKo a0)) (k := (a4 - 1).toNatClampNeg) (v := gp M15 (lKo a0) a4.toNatClampNeg) R g7 e23
      clear e23
      refine k_iinc (pc := 82) (v := a4 + (-1)) (lo2 := [some (.ref (A (lKp a0))), b1, some (.int a2), some (.int a3), some (.int (a4 + (-1))), some (.int (gp M15 (lKo a0) a4.toNatClampNeg))]) i_25_82 rfl rfl rfl ?_
      refine k_goto (pc := 85) (tgt := 18) i_25_85 (by decide) ?_
      obtain rfl := Option.some.inj hF
      exact K _ _ _ R
noncomputable def F_25 (T : kT) (a0 : Nat) (a1 : kLb) (a2 : Int32) (a3 : Int32) (M : kM) : Option (Int32 × kM) :=
  kGd (kLv T (lTm a0)) (kBd (F_24 T a0 a1 M) (fun r2 M3 => if r2 = 0 then (some (0, M3)) else (F_25_18 T a0 a2 a3 ((gp M3 (lKp a0) 3) - 1) M3)))
set_option maxHeartbeats 1000000 in
theorem D_25 {G : kG} {d : Nat} {A : kLb → Nat} {T : kT} {M : kM} {h : kH} {a0 : Nat} {a1 : kLb} {a2 : Int32} {a3 : Int32} {z : (Int32 × kM)} (R : kRl A T M h) (hF : F_25 T a0 a1 a2 a3 M = some z) : kRun G (d + 2) 25 [.ref (A (lKp a0)), .ref (A a1), .int a2, .int a3] h 0 0 (kPI A T z) := by
  refine ⟨⟨rfl, Nat.le_of_ble_eq_true rfl⟩, ?_⟩
  show kWP _ _ (kRun G (d + 1)) _ 0 [some (.ref (A (lKp a0))), some (.ref (A a1)), some (.int a2), some (.int a3), none, none] [] _ _ _
  have K : (fun z : (Int32 × kM) => ∀ h1, kRl A T z.2 h1 → kPI A T z (.inl (some (.int z.1))) h1) z := fun _ q => ⟨rfl, q⟩
  unfold F_25 at hF
  refine k_aload_n (pc := 0) i_25_0 rfl rfl ?_
  refine k_aload_n (pc := 1) i_25_1 rfl rfl ?_
  obtain ⟨g1, hF⟩ := kGd_el hF
  obtain ⟨r2, M3, q4, hF⟩ := kBd_el hF
  refine kcv_I (pc := 2) (As := [.ref (A (lKp a0)), .ref (A a1)]) (st := []) (A := A) (T := T) (r := r2) (M1 := M3) i_25_2 m_1_31 rfl rfl rfl rfl (rd_Kp (i := a0) R g1) rfl (Nat.le_of_ble_eq_true rfl) (D_24 R q4) (fun h R => ?_)
  refine k_if_ne (pc := 5) (tgt := 10) i_25_5 (by decide) (fun c5 => ?_) (fun c5 => ?_)
  · rw [if_neg c5] at hF
    refine k_aload_n (pc := 10) i_25_10 rfl rfl ?_
    refine k_getf (pc := 11) i_25_11 f_1_22 (rd_Kp (i := a0) R g1) rfl ?_
    refine k_iconst (pc := 14) (v := 1) i_25_14 (by decide) ?_
    refine k_isub (pc := 15) i_25_15 ?_
    refine k_istore (pc := 16) (lo2 := [some (.ref (A (lKp a0))), some (.ref (A a1)), some (.int a2), some (.int a3), some (.int ((gp M3 (lKp a0) 3) - 1)), none]) i_25_16 (Nat.le_of_ble_eq_true rfl) rfl ?_
    exact W_25_18 (d := d) rfl R K hF
  · rw [if_pos c5] at hF
    refine k_iconst (pc := 8) (v := 0) i_25_8 (by decide) ?_
    obtain rfl := Option.some.inj hF
    exact k_ireturn (pc := 9) i_25_9 rfl rfl (K _ R)
-- 28: RD$Kept isAt
noncomputable def B_28_36 (T : kT) (a0 : Nat) (a2 : kLb) (a3 : Int32) (a4 : Int32) (M : kM) : Option ((Int32 × kM) ⊕ (Int32 × kM)) :=
  kGd (kLv T (lTm a0)) (if (gp M (lKp a0) 2) ≤ a4 then (some (.inr ((1, M)))) else (kGx (a3 + a4) 1800 (kGd (kLv T a2) (kGd (kisI a2) (kGx a4 (klen a2) (if (gp M (lKc a0) (a3 + a4).toNatClampNeg) = (gp M a2 a4.toNatClampNeg) then (some (.inl ((a4 + 1), M))) else (some (.inr ((0, M))))))))))
noncomputable def F_28_36 (T : kT) (a0 : Nat) (a2 : kLb) (a3 : Int32) (a4 : Int32) (M : kM) : Option (Int32 × kM) :=
  kWh (fun w : (Int32 × kM) => B_28_36 T a0 a2 a3 w.1 w.2) (a4, M)
theorem F_28_36_eq (T : kT) (a0 : Nat) (a2 : kLb) (a3 : Int32) (a4 : Int32) (M : kM) : F_28_36 T a0 a2 a3 a4 M = kAg (B_28_36 T a0 a2 a3 a4 M) (fun w => F_28_36 T a0 a2 a3 w.1 w.2) := by
  unfold F_28_36
  rw [kWh_eq]
set_option maxHeartbeats 1000000 in
theorem W_28_36 {G : kG} {d : Nat} {A : kLb → Nat} {C : kCl} {P : kO → kH → Prop} {T : kT} {M : kM} {h : kH} {a0 : Nat} {a2 : kLb} {a3 : Int32} {a4 : Int32} {b1 : Option Value} {z : (Int32 × kM)} (hC : C = kRun G (d + 0)) (R : kRl A T M h) (K : (fun z : (Int32 × kM) => ∀ h1, kRl A T z.2 h1 → P (.inl (some (.int z.1))) h1) z) (hF : F_28_36 T a0 a2 a3 a4 M = some z) : kWP G 28 C P 36 [some (.ref (A (lKp a0))), b1, some (.ref (A a2)), some (.int a3), some (.int a4)] [] h 0 0 := by
  refine kWh_ind (P := (fun w : (Int32 × kM) => ∀ (h : kH) (b1 : Option Value), kRl A T w.2 h → kWP G 28 C P 36 [some (.ref (A (lKp a0))), b1, some (.ref (A a2)), some (.int a3), some (.int w.1)] [] h 0 0)) (Q := (fun z : (Int32 × kM) => ∀ h1, kRl A T z.2 h1 → P (.inl (some (.int z.1))) h1)) hF K ?_ h _ R
  clear hF K R
  intro w z hF K h b1 R
  obtain ⟨a4, M⟩ := w
  change B_28_36 T a0 a2 a3 a4 M = some z at hF
  change kWP G 28 C P 36 [some (.ref (A (lKp a0))), b1, some (.ref (A a2)), some (.int a3), some (.int a4)] [] h 0 0
  unfold B_28_36 at hF
  refine k_iload (pc := 36) i_28_36 rfl ?_
  refine k_aload_n (pc := 38) i_28_38 rfl rfl ?_
  obtain ⟨g8, hF⟩ := kGd_el hF
  refine k_getf (pc := 39) i_28_39 f_1_18 (rd_Kp (i := a0) R g8) rfl ?_
  refine k_icmp_ge (pc := 42) (tgt := 69) i_28_42 (by decide) (fun c9 => ?_) (fun c9 => ?_)
  · rw [if_pos c9] at hF
    refine k_iconst (pc := 69) (v := 1) i_28_69 (by decide) ?_
    obtain rfl := Option.some.inj hF
    exact k_ireturn (pc := 70) i_28_70 rfl rfl (K _ R)
  · rw [if_neg c9] at hF
    refine k_aload_n (pc := 45) i_28_45 rfl rfl ?_
    refine k_getf (pc := 46) i_28_46 f_1_9 (rd_Kp (i := a0) R g8) rfl ?_
    refine k_iload_n (pc := 49) i_28_49 rfl ?_
    refine k_iload (pc := 50) i_28_50 rfl ?_
    refine k_iadd (pc := 52) i_28_52 ?_
    obtain ⟨g10, hF⟩ := kGx_el hF
    refine k_iald (pc := 53) i_28_53 (rd_Kc (i := a0) R g8) g10 ?_
    refine k_aload_n (pc := 54) i_28_54 rfl rfl ?_
    refine k_iload (pc := 55) i_28_55 rfl ?_
    obtain ⟨g11, hF⟩ := kGd_el hF
    obtain ⟨g12, hF⟩ := kGd_el hF
    obtain ⟨g13, hF⟩ := kGx_el hF
    refine k_iald (pc := 57) i_28_57 (rd_L R g11 g12) g13 ?_
    refine k_icmp_eq (pc := 58) (tgt := 63) i_28_58 (by decide) (fun c14 => ?_) (fun c14 => ?_)
    · rw [if_pos c14] at hF
      refine k_iinc (pc := 63) (v := a4 + 1) (lo2 := [some (.ref (A (lKp a0))), b1, some (.ref (A a2)), some (.int a3), some (.int (a4 + 1))]) i_28_63 rfl rfl rfl ?_
      refine k_goto (pc := 66) (tgt := 36) i_28_66 (by decide) ?_
      obtain rfl := Option.some.inj hF
      exact K _ _ R
    · rw [if_neg c14] at hF
      refine k_iconst (pc := 61) (v := 0) i_28_61 (by decide) ?_
      obtain rfl := Option.some.inj hF
      exact k_ireturn (pc := 62) i_28_62 rfl rfl (K _ R)
noncomputable def F_28 (T : kT) (a0 : Nat) (a1 : Int32) (a2 : kLb) (M : kM) : Option (Int32 × kM) :=
  if a1 < 0 then (some (0, M)) else (kGd (kLv T (lTm a0)) (if (gp M (lKp a0) 3) ≤ a1 then (some (0, M)) else (kGd (kLv T a2) (kGd (kisI a2) (if (gp M (lKp a0) 2) ≤ (nI (klen a2)) then (kGx a1 150 (F_28_36 T a0 a2 ((gp M (lKo a0) a1.toNatClampNeg) * 12) 0 M)) else (some (0, M)))))))
set_option maxHeartbeats 1000000 in
theorem D_28 {G : kG} {d : Nat} {A : kLb → Nat} {T : kT} {M : kM} {h : kH} {a0 : Nat} {a1 : Int32} {a2 : kLb} {z : (Int32 × kM)} (R : kRl A T M h) (hF : F_28 T a0 a1 a2 M = some z) : kRun G (d + 1) 28 [.ref (A (lKp a0)), .int a1, .ref (A a2)] h 0 0 (kPI A T z) := by
  refine ⟨⟨rfl, Nat.le_of_ble_eq_true rfl⟩, ?_⟩
  show kWP _ _ (kRun G (d + 0)) _ 0 [some (.ref (A (lKp a0))), some (.int a1), some (.ref (A a2)), none, none] [] _ _ _
  have K : (fun z : (Int32 × kM) => ∀ h1, kRl A T z.2 h1 → kPI A T z (.inl (some (.int z.1))) h1) z := fun _ q => ⟨rfl, q⟩
  unfold F_28 at hF
  refine k_iload_n (pc := 0) i_28_0 rfl ?_
  refine k_if_lt (pc := 1) (tgt := 21) i_28_1 (by decide) (fun c1 => ?_) (fun c1 => ?_)
  · rw [if_pos c1] at hF
    refine k_iconst (pc := 21) (v := 0) i_28_21 (by decide) ?_
    obtain rfl := Option.some.inj hF
    exact k_ireturn (pc := 22) i_28_22 rfl rfl (K _ R)
  · rw [if_neg c1] at hF
    refine k_iload_n (pc := 4) i_28_4 rfl ?_
    refine k_aload_n (pc := 5) i_28_5 rfl rfl ?_
    obtain ⟨g2, hF⟩ := kGd_el hF
    refine k_getf (pc := 6) i_28_6 f_1_22 (rd_Kp (i := a0) R g2) rfl ?_
    refine k_icmp_ge (pc := 9) (tgt := 21) i_28_9 (by decide) (fun c3 => ?_) (fun c3 => ?_)
    · rw [if_pos c3] at hF
      refine k_iconst (pc := 21) (v := 0) i_28_21 (by decide) ?_
      obtain rfl := Option.some.inj hF
      exact k_ireturn (pc := 22) i_28_22 rfl rfl (K _ R)
    · rw [if_neg c3] at hF
      refine k_aload_n (pc := 12) i_28_12 rfl rfl ?_
      obtain ⟨g4, hF⟩ := kGd_el hF
      obtain ⟨g5, hF⟩ := kGd_el hF
      refine k_alen (pc := 13) (v := nI (klen a2)) i_28_13 (rd_L R g4 g5) (by decide) rfl ?_
      refine k_aload_n (pc := 14) i_28_14 rfl rfl ?_
      refine k_getf (pc := 15) i_28_15 f_1_18 (rd_Kp (i := a0) R g2) rfl ?_
      refine k_icmp_ge (pc := 18) (tgt := 23) i_28_18 (by decide) (fun c6 => ?_) (fun c6 => ?_)
      · rw [if_pos c6] at hF
        refine k_aload_n (pc := 23) i_28_23 rfl rfl ?_
        refine k_getf (pc := 24) i_28_24 f_1_15 (rd_Kp (i := a0) R g2) rfl ?_
        refine k_iload_n (pc := 27) i_28_27 rfl ?_
        obtain ⟨g7, hF⟩ := kGx_el hF
        refine k_iald (pc := 28) i_28_28 (rd_Ko (i := a0) R g2) g7 ?_
        refine k_bipush (pc := 29) (v := 12) i_28_29 (by decide) ?_
        refine k_imul (pc := 31) i_28_31 ?_
        refine k_istore_n (pc := 32) (lo2 := [some (.ref (A (lKp a0))), some (.int a1), some (.ref (A a2)), some (.int ((gp M (lKo a0) a1.toNatClampNeg) * 12)), none]) i_28_32 (Nat.le_of_ble_eq_true rfl) rfl ?_
        refine k_iconst (pc := 33) (v := 0) i_28_33 (by decide) ?_
        refine k_istore (pc := 34) (lo2 := [some (.ref (A (lKp a0))), some (.int a1), some (.ref (A a2)), some (.int ((gp M (lKo a0) a1.toNatClampNeg) * 12)), some (.int 0)]) i_28_34 (Nat.le_of_ble_eq_true rfl) rfl ?_
        exact W_28_36 (d := d) rfl R K hF
      · rw [if_neg c6] at hF
        refine k_iconst (pc := 21) (v := 0) i_28_21 (by decide) ?_
        obtain rfl := Option.some.inj hF
        exact k_ireturn (pc := 22) i_28_22 rfl rfl (K _ R)
-- 27: RD$Kept holds
noncomputable def B_27_2 (T : kT) (a0 : Nat) (a1 : kLb) (a2 : Int32) (M : kM) : Option ((Int32 × kM) ⊕ (Int32 × kM)) :=
  kGd (kLv T (lTm a0)) (if (gp M (lKp a0) 3) ≤ a2 then (some (.inr ((0, M)))) else (kBd (F_28 T a0 a2 a1 M) (fun r3 M4 => if r3 = 0 then (some (.inl ((a2 + 1), M4))) else (some (.inr ((1, M4)))))))
noncomputable def F_27_2 (T : kT) (a0 : Nat) (a1 : kLb) (a2 : Int32) (M : kM) : Option (Int32 × kM) :=
  kWh (fun w : (Int32 × kM) => B_27_2 T a0 a1 w.1 w.2) (a2, M)
theorem F_27_2_eq (T : kT) (a0 : Nat) (a1 : kLb) (a2 : Int32) (M : kM) : F_27_2 T a0 a1 a2 M = kAg (B_27_2 T a0 a1 a2 M) (fun w => F_27_2 T a0 a1 w.1 w.2) := by
  unfold F_27_2
  rw [kWh_eq]
set_option maxHeartbeats 1000000 in
theorem W_27_2 {G : kG} {d : Nat} {A : kLb → Nat} {C : kCl} {P : kO → kH → Prop} {T : kT} {M : kM} {h : kH} {a0 : Nat} {a1 : kLb} {a2 : Int32} {z : (Int32 × kM)} (hC : C = kRun G (d + 1)) (R : kRl A T M h) (K : (fun z : (Int32 × kM) => ∀ h1, kRl A T z.2 h1 → P (.inl (some (.int z.1))) h1) z) (hF : F_27_2 T a0 a1 a2 M = some z) : kWP G 27 C P 2 [some (.ref (A (lKp a0))), some (.ref (A a1)), some (.int a2)] [] h 0 0 := by
  refine kWh_ind (P := (fun w : (Int32 × kM) => ∀ (h : kH), kRl A T w.2 h → kWP G 27 C P 2 [some (.ref (A (lKp a0))), some (.ref (A a1)), some (.int w.1)] [] h 0 0)) (Q := (fun z : (Int32 × kM) => ∀ h1, kRl A T z.2 h1 → P (.inl (some (.int z.1))) h1)) hF K ?_ h R
  clear hF K R
  intro w z hF K h R
  obtain ⟨a2, M⟩ := w
  change B_27_2 T a0 a1 a2 M = some z at hF
  change kWP G 27 C P 2 [some (.ref (A (lKp a0))), some (.ref (A a1)), some (.int a2)] [] h 0 0
  unfold B_27_2 at hF
  refine k_iload_n (pc := 2) i_27_2 rfl ?_
  refine k_aload_n (pc := 3) i_27_3 rfl rfl ?_
  obtain ⟨g1, hF⟩ := kGd_el hF
  refine k_getf (pc := 4) i_27_4 f_1_22 (rd_Kp (i := a0) R g1) rfl ?_
  refine k_icmp_ge (pc := 7) (tgt := 27) i_27_7 (by decide) (fun c2 => ?_) (fun c2 => ?_)
  · rw [if_pos c2] at hF
    refine k_iconst (pc := 27) (v := 0) i_27_27 (by decide) ?_
    obtain rfl := Option.some.inj hF
    exact k_ireturn (pc := 28) i_27_28 rfl rfl (K _ R)
  · rw [if_neg c2] at hF
    refine k_aload_n (pc := 10) i_27_10 rfl rfl ?_
    refine k_iload_n (pc := 11) i_27_11 rfl ?_
    refine k_aload_n (pc := 12) i_27_12 rfl rfl ?_
    obtain ⟨r3, M4, q5, hF⟩ := kBd_el hF
    refine kcv_I (pc := 13) (As := [.ref (A (lKp a0)), .int a2, .ref (A a1)]) (st := []) (A := A) (T := T) (r := r3) (M1 := M4) i_27_13 m_1_43 rfl rfl rfl rfl (rd_Kp (i := a0) R g1) rfl (Nat.le_of_ble_eq_true rfl) (hC ▸ D_28 R q5) (fun h R => ?_)
    refine k_if_eq (pc := 16) (tgt := 21) i_27_16 (by decide) (fun c6 => ?_) (fun c6 => ?_)
    · rw [if_pos c6] at hF
      refine k_iinc (pc := 21) (v := a2 + 1) (lo2 := [some (.ref (A (lKp a0))), some (.ref (A a1)), some (.int (a2 + 1))]) i_27_21 rfl rfl rfl ?_
      refine k_goto (pc := 24) (tgt := 2) i_27_24 (by decide) ?_
      obtain rfl := Option.some.inj hF
      exact K _ R
    · rw [if_neg c6] at hF
      refine k_iconst (pc := 19) (v := 1) i_27_19 (by decide) ?_
      obtain rfl := Option.some.inj hF
      exact k_ireturn (pc := 20) i_27_20 rfl rfl (K _ R)
noncomputable def F_27 (T : kT) (a0 : Nat) (a1 : kLb) (M : kM) : Option (Int32 × kM) :=
  F_27_2 T a0 a1 0 M
set_option maxHeartbeats 1000000 in
theorem D_27 {G : kG} {d : Nat} {A : kLb → Nat} {T : kT} {M : kM} {h : kH} {a0 : Nat} {a1 : kLb} {z : (Int32 × kM)} (R : kRl A T M h) (hF : F_27 T a0 a1 M = some z) : kRun G (d + 2) 27 [.ref (A (lKp a0)), .ref (A a1)] h 0 0 (kPI A T z) := by
  refine ⟨⟨rfl, Nat.le_of_ble_eq_true rfl⟩, ?_⟩
  show kWP _ _ (kRun G (d + 1)) _ 0 [some (.ref (A (lKp a0))), some (.ref (A a1)), none] [] _ _ _
  have K : (fun z : (Int32 × kM) => ∀ h1, kRl A T z.2 h1 → kPI A T z (.inl (some (.int z.1))) h1) z := fun _ q => ⟨rfl, q⟩
  unfold F_27 at hF
  refine k_iconst (pc := 0) (v := 0) i_27_0 (by decide) ?_
  refine k_istore_n (pc := 1) (lo2 := [some (.ref (A (lKp a0))), some (.ref (A a1)), some (.int 0)]) i_27_1 (Nat.le_of_ble_eq_true rfl) rfl ?_
  exact W_27_2 (d := d) rfl R K hF
-- 29: RD$Kept find
noncomputable def B_29_2 (T : kT) (a0 : Nat) (a1 : Int32) (a2 : Int32) (M : kM) : Option ((Int32 × kM) ⊕ (Int32 × kM)) :=
  kGd (kLv T (lTm a0)) (if (gp M (lKp a0) 3) ≤ a2 then (some (.inr ((gp M (lKp a0) 3, M)))) else (kGx a2 150 (kGx ((gp M (lKo a0) a2.toNatClampNeg) * 12) 1800 (if (gp M (lKc a0) ((gp M (lKo a0) a2.toNatClampNeg) * 12).toNatClampNeg) = a1 then (some (.inr ((a2, M)))) else (some (.inl ((a2 + 1), M)))))))
noncomputable def F_29_2 (T : kT) (a0 : Nat) (a1 : Int32) (a2 : Int32) (M : kM) : Option (Int32 × kM) :=
  kWh (fun w : (Int32 × kM) => B_29_2 T a0 a1 w.1 w.2) (a2, M)
theorem F_29_2_eq (T : kT) (a0 : Nat) (a1 : Int32) (a2 : Int32) (M : kM) : F_29_2 T a0 a1 a2 M = kAg (B_29_2 T a0 a1 a2 M) (fun w => F_29_2 T a0 a1 w.1 w.2) := by
  unfold F_29_2
  rw [kWh_eq]
set_option maxHeartbeats 1000000 in
theorem W_29_2 {G : kG} {d : Nat} {A : kLb → Nat} {C : kCl} {P : kO → kH → Prop} {T : kT} {M : kM} {h : kH} {a0 : Nat} {a1 : Int32} {a2 : Int32} {z : (Int32 × kM)} (hC : C = kRun G (d + 0)) (R : kRl A T M h) (K : (fun z : (Int32 × kM) => ∀ h1, kRl A T z.2 h1 → P (.inl (some (.int z.1))) h1) z) (hF : F_29_2 T a0 a1 a2 M = some z) : kWP G 29 C P 2 [some (.ref (A (lKp a0))), some (.int a1), some (.int a2)] [] h 0 0 := by
  refine kWh_ind (P := (fun w : (Int32 × kM) => ∀ (h : kH), kRl A T w.2 h → kWP G 29 C P 2 [some (.ref (A (lKp a0))), some (.int a1), some (.int w.1)] [] h 0 0)) (Q := (fun z : (Int32 × kM) => ∀ h1, kRl A T z.2 h1 → P (.inl (some (.int z.1))) h1)) hF K ?_ h R
  clear hF K R
  intro w z hF K h R
  obtain ⟨a2, M⟩ := w
  change B_29_2 T a0 a1 a2 M = some z at hF
  change kWP G 29 C P 2 [some (.ref (A (lKp a0))), some (.int a1), some (.int a2)] [] h 0 0
  unfold B_29_2 at hF
  refine k_iload_n (pc := 2) i_29_2 rfl ?_
  refine k_aload_n (pc := 3) i_29_3 rfl rfl ?_
  obtain ⟨g1, hF⟩ := kGd_el hF
  refine k_getf (pc := 4) i_29_4 f_1_22 (rd_Kp (i := a0) R g1) rfl ?_
  refine k_icmp_ge (pc := 7) (tgt := 36) i_29_7 (by decide) (fun c2 => ?_) (fun c2 => ?_)
  · rw [if_pos c2] at hF
    refine k_aload_n (pc := 36) i_29_36 rfl rfl ?_
    refine k_getf (pc := 37) i_29_37 f_1_22 (rd_Kp (i := a0) R g1) rfl ?_
    obtain rfl := Option.some.inj hF
    exact k_ireturn (pc := 40) i_29_40 rfl rfl (K _ R)
  · rw [if_neg c2] at hF
    refine k_aload_n (pc := 10) i_29_10 rfl rfl ?_
    refine k_getf (pc := 11) i_29_11 f_1_9 (rd_Kp (i := a0) R g1) rfl ?_
    refine k_aload_n (pc := 14) i_29_14 rfl rfl ?_
    refine k_getf (pc := 15) i_29_15 f_1_15 (rd_Kp (i := a0) R g1) rfl ?_
    refine k_iload_n (pc := 18) i_29_18 rfl ?_
    obtain ⟨g3, hF⟩ := kGx_el hF
    refine k_iald (pc := 19) i_29_19 (rd_Ko (i := a0) R g1) g3 ?_
    refine k_bipush (pc := 20) (v := 12) i_29_20 (by decide) ?_
    refine k_imul (pc := 22) i_29_22 ?_
    obtain ⟨g4, hF⟩ := kGx_el hF
    refine k_iald (pc := 23) i_29_23 (rd_Kc (i := a0) R g1) g4 ?_
    refine k_iload_n (pc := 24) i_29_24 rfl ?_
    refine k_icmp_ne (pc := 25) (tgt := 30) i_29_25 (by decide) (fun c5 => ?_) (fun c5 => ?_)
    · rw [if_neg c5] at hF
      refine k_iinc (pc := 30) (v := a2 + 1) (lo2 := [some (.ref (A (lKp a0))), some (.int a1), some (.int (a2 + 1))]) i_29_30 rfl rfl rfl ?_
      refine k_goto (pc := 33) (tgt := 2) i_29_33 (by decide) ?_
      obtain rfl := Option.some.inj hF
      exact K _ R
    · rw [if_pos c5] at hF
      refine k_iload_n (pc := 28) i_29_28 rfl ?_
      obtain rfl := Option.some.inj hF
      exact k_ireturn (pc := 29) i_29_29 rfl rfl (K _ R)
noncomputable def F_29 (T : kT) (a0 : Nat) (a1 : Int32) (M : kM) : Option (Int32 × kM) :=
  F_29_2 T a0 a1 0 M
set_option maxHeartbeats 1000000 in
theorem D_29 {G : kG} {d : Nat} {A : kLb → Nat} {T : kT} {M : kM} {h : kH} {a0 : Nat} {a1 : Int32} {z : (Int32 × kM)} (R : kRl A T M h) (hF : F_29 T a0 a1 M = some z) : kRun G (d + 1) 29 [.ref (A (lKp a0)), .int a1] h 0 0 (kPI A T z) := by
  refine ⟨⟨rfl, Nat.le_of_ble_eq_true rfl⟩, ?_⟩
  show kWP _ _ (kRun G (d + 0)) _ 0 [some (.ref (A (lKp a0))), some (.int a1), none] [] _ _ _
  have K : (fun z : (Int32 × kM) => ∀ h1, kRl A T z.2 h1 → kPI A T z (.inl (some (.int z.1))) h1) z := fun _ q => ⟨rfl, q⟩
  unfold F_29 at hF
  refine k_iconst (pc := 0) (v := 0) i_29_0 (by decide) ?_
  refine k_istore_n (pc := 1) (lo2 := [some (.ref (A (lKp a0))), some (.int a1), some (.int 0)]) i_29_1 (Nat.le_of_ble_eq_true rfl) rfl ?_
  exact W_29_2 (d := d) rfl R K hF
-- 91: RD$Term become
noncomputable def F_91 (T : kT) (a0 : Nat) (a1 : Int32) (M : kM) : Option (Unit × kM) :=
  kGd (kLv T (lTm a0)) (some ((), sp (sq (sq (sq (sp (sp (sp (sp (sp M (lTm a0) 0 a1) (lTm a0) 1 0) (lTm a0) 2 0) (lTm a0) 3 0) (lTm a0) 4 0) (lTm a0) 6 none) (lTm a0) 7 none) (lTm a0) 8 none) (lTm a0) 9 0))
set_option maxHeartbeats 1000000 in
theorem D_91 {G : kG} {d : Nat} {A : kLb → Nat} {T : kT} {M : kM} {h : kH} {a0 : Nat} {a1 : Int32} {z : (Unit × kM)} (R : kRl A T M h) (hF : F_91 T a0 a1 M = some z) : kRun G (d + 1) 91 [.ref (A (lTm a0)), .int a1] h 0 0 (kPV A T z) := by
  refine ⟨⟨rfl, Nat.le_of_ble_eq_true rfl⟩, ?_⟩
  show kWP _ _ (kRun G (d + 0)) _ 0 [some (.ref (A (lTm a0))), some (.int a1)] [] _ _ _
  have K : (fun z : (Unit × kM) => ∀ h1, kRl A T z.2 h1 → kPV A T z (.inl none) h1) z := fun _ q => ⟨rfl, q⟩
  unfold F_91 at hF
  refine k_aload_n (pc := 0) i_91_0 rfl rfl ?_
  refine k_iload_n (pc := 1) i_91_1 rfl ?_
  obtain ⟨g1, hF⟩ := kGd_el hF
  refine k_putf (pc := 2) i_91_2 f_6_25 (rd_Tm (i := a0) R g1) (by decide +kernel) (Nat.le_of_ble_eq_true rfl) rfl rfl rfl (fun h e2 => ?_)
  replace R := kRl_sp (l := (lTm a0)) (k := 0) (v := a1) R g1 e2
  clear e2
  refine k_aload_n (pc := 5) i_91_5 rfl rfl ?_
  refine k_iconst (pc := 6) (v := 0) i_91_6 (by decide) ?_
  refine k_putf (pc := 7) i_91_7 f_6_29 (rd_Tm (i := a0) R g1) (by decide +kernel) (Nat.le_of_ble_eq_true rfl) rfl rfl rfl (fun h e3 => ?_)
  replace R := kRl_sp (l := (lTm a0)) (k := 1) (v := 0) R g1 e3
  clear e3
  refine k_aload_n (pc := 10) i_91_10 rfl rfl ?_
  refine k_iconst (pc := 11) (v := 0) i_91_11 (by decide) ?_
  refine k_putf (pc := 12) i_91_12 f_6_32 (rd_Tm (i := a0) R g1) (by decide +kernel) (Nat.le_of_ble_eq_true rfl) rfl rfl rfl (fun h e4 => ?_)
  replace R := kRl_sp (l := (lTm a0)) (k := 2) (v := 0) R g1 e4
  clear e4
  refine k_aload_n (pc := 15) i_91_15 rfl rfl ?_
  refine k_iconst (pc := 16) (v := 0) i_91_16 (by decide) ?_
  refine k_putf (pc := 17) i_91_17 f_6_35 (rd_Tm (i := a0) R g1) (by decide +kernel) (Nat.le_of_ble_eq_true rfl) rfl rfl rfl (fun h e5 => ?_)
  replace R := kRl_sp (l := (lTm a0)) (k := 3) (v := 0) R g1 e5
  clear e5
  refine k_aload_n (pc := 20) i_91_20 rfl rfl ?_
  refine k_iconst (pc := 21) (v := 0) i_91_21 (by decide) ?_
  refine k_putf (pc := 22) i_91_22 f_6_38 (rd_Tm (i := a0) R g1) (by decide +kernel) (Nat.le_of_ble_eq_true rfl) rfl rfl rfl (fun h e6 => ?_)
  replace R := kRl_sp (l := (lTm a0)) (k := 4) (v := 0) R g1 e6
  clear e6
  refine k_aload_n (pc := 25) i_91_25 rfl rfl ?_
  refine k_null (pc := 26) i_91_26 ?_
  refine k_putf (pc := 27) i_91_27 f_6_41 (rd_Tm (i := a0) R g1) (by decide +kernel) (Nat.le_of_ble_eq_true rfl) rfl rfl rfl (fun h e7 => ?_)
  replace R := kRl_sq (l := (lTm a0)) (k := 6) (v := none) R g1 e7
  clear e7
  refine k_aload_n (pc := 30) i_91_30 rfl rfl ?_
  refine k_null (pc := 31) i_91_31 ?_
  refine k_putf (pc := 32) i_91_32 f_6_45 (rd_Tm (i := a0) R g1) (by decide +kernel) (Nat.le_of_ble_eq_true rfl) rfl rfl rfl (fun h e8 => ?_)
  replace R := kRl_sq (l := (lTm a0)) (k := 7) (v := none) R g1 e8
  clear e8
  refine k_aload_n (pc := 35) i_91_35 rfl rfl ?_
  refine k_null (pc := 36) i_91_36 ?_
  refine k_putf (pc := 37) i_91_37 f_6_49 (rd_Tm (i := a0) R g1) (by decide +kernel) (Nat.le_of_ble_eq_true rfl) rfl rfl rfl (fun h e9 => ?_)
  replace R := kRl_sq (l := (lTm a0)) (k := 8) (v := none) R g1 e9
  clear e9
  refine k_aload_n (pc := 40) i_91_40 rfl rfl ?_
  refine k_iconst (pc := 41) (v := 0) i_91_41 (by decide) ?_
  refine k_putf (pc := 42) i_91_42 f_6_52 (rd_Tm (i := a0) R g1) (by decide +kernel) (Nat.le_of_ble_eq_true rfl) rfl rfl rfl (fun h e10 => ?_)
  replace R := kRl_sp (l := (lTm a0)) (k := 9) (v := 0) R g1 e10
  clear e10
  obtain rfl := Option.some.inj hF
  exact k_return (pc := 45) i_91_45 rfl (K _ R)
-- 92: RD$Term forget
noncomputable def F_92 (T : kT) (a0 : Nat) (M : kM) : Option (Unit × kM) :=
  kGd (kLv T (lTm a0)) (kBd (F_20 T a0 (gp (sp (sp (sp (sp M (lTm a0) 12 0) (lTm a0) 13 0) (lTm a0) 14 0) (lTm a0) 15 0) (lTm a0) 9) (sp (sp (sp (sp M (lTm a0) 12 0) (lTm a0) 13 0) (lTm a0) 14 0) (lTm a0) 15 0)) (fun r6 M7 => some ((), M7)))
set_option maxHeartbeats 1000000 in
theorem D_92 {G : kG} {d : Nat} {A : kLb → Nat} {T : kT} {M : kM} {h : kH} {a0 : Nat} {z : (Unit × kM)} (R : kRl A T M h) (hF : F_92 T a0 M = some z) : kRun G (d + 2) 92 [.ref (A (lTm a0))] h 0 0 (kPV A T z) := by
  refine ⟨⟨rfl, Nat.le_of_ble_eq_true rfl⟩, ?_⟩
  show kWP _ _ (kRun G (d + 1)) _ 0 [some (.ref (A (lTm a0)))] [] _ _ _
  have K : (fun z : (Unit × kM) => ∀ h1, kRl A T z.2 h1 → kPV A T z (.inl none) h1) z := fun _ q => ⟨rfl, q⟩
  unfold F_92 at hF
  refine k_aload_n (pc := 0) i_92_0 rfl rfl ?_
  refine k_iconst (pc := 1) (v := 0) i_92_1 (by decide) ?_
  obtain ⟨g1, hF⟩ := kGd_el hF
  refine k_putf (pc := 2) i_92_2 f_6_55 (rd_Tm (i := a0) R g1) (by decide +kernel) (Nat.le_of_ble_eq_true rfl) rfl rfl rfl (fun h e2 => ?_)
  replace R := kRl_sp (l := (lTm a0)) (k := 12) (v := 0) R g1 e2
  clear e2
  refine k_aload_n (pc := 5) i_92_5 rfl rfl ?_
  refine k_iconst (pc := 6) (v := 0) i_92_6 (by decide) ?_
  refine k_putf (pc := 7) i_92_7 f_6_58 (rd_Tm (i := a0) R g1) (by decide +kernel) (Nat.le_of_ble_eq_true rfl) rfl rfl rfl (fun h e3 => ?_)
  replace R := kRl_sp (l := (lTm a0)) (k := 13) (v := 0) R g1 e3
  clear e3
  refine k_aload_n (pc := 10) i_92_10 rfl rfl ?_
  refine k_iconst (pc := 11) (v := 0) i_92_11 (by decide) ?_
  refine k_putf (pc := 12) i_92_12 f_6_62 (rd_Tm (i := a0) R g1) (by decide +kernel) (Nat.le_of_ble_eq_true rfl) rfl rfl rfl (fun h e4 => ?_)
  replace R := kRl_sp (l := (lTm a0)) (k := 14) (v := 0) R g1 e4
  clear e4
  refine k_aload_n (pc := 15) i_92_15 rfl rfl ?_
  refine k_iconst (pc := 16) (v := 0) i_92_16 (by decide) ?_
  refine k_putf (pc := 17) i_92_17 f_6_65 (rd_Tm (i := a0) R g1) (by decide +kernel) (Nat.le_of_ble_eq_true rfl) rfl rfl rfl (fun h e5 => ?_)
  replace R := kRl_sp (l := (lTm a0)) (k := 15) (v := 0) R g1 e5
  clear e5
  refine k_aload_n (pc := 20) i_92_20 rfl rfl ?_
  refine k_getf (pc := 21) i_92_21 f_6_21 (rd_Tm (i := a0) R g1) rfl ?_
  refine k_aload_n (pc := 24) i_92_24 rfl rfl ?_
  refine k_getf (pc := 25) i_92_25 f_6_52 (rd_Tm (i := a0) R g1) rfl ?_
  obtain ⟨r6, M7, q8, hF⟩ := kBd_el hF
  refine kcv_V (pc := 28) (As := [.ref (A (lKp a0)), .int (gp (sp (sp (sp (sp M (lTm a0) 12 0) (lTm a0) 13 0) (lTm a0) 14 0) (lTm a0) 15 0) (lTm a0) 9)]) (st := []) (A := A) (T := T) (r := r6) (M1 := M7) i_92_28 m_6_68 rfl rfl rfl rfl (rd_Kp (i := a0) R g1) rfl (Nat.le_of_ble_eq_true rfl) (D_20 R q8) (fun h R => ?_)
  obtain rfl := Option.some.inj hF
  exact k_return (pc := 31) i_92_31 rfl (K _ R)
