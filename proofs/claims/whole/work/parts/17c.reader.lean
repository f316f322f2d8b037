-- 31: RD$Reader addWord
noncomputable def F_31 (T : kT) (a1 : Int32) (M : kM) : Option (Unit × kM) :=
  if 60 ≤ (gp M lRd 1) then (some ((), M)) else (kGx (gp M lRd 1) 60 (some ((), sp (sp M lWo (gp M lRd 1).toNatClampNeg a1) lRd 1 ((gp (sp M lWo (gp M lRd 1).toNatClampNeg a1) lRd 1) + 1))))
set_option maxHeartbeats 1000000 in
theorem D_31 {G : kG} {d : Nat} {A : kLb → Nat} {T : kT} {M : kM} {h : kH} {a1 : Int32} {z : (Unit × kM)} (R : kRl A T M h) (hF : F_31 T a1 M = some z) : kRun G (d + 1) 31 [.ref (A lRd), .int a1] h 0 0 (kPV A T z) := by
  refine ⟨⟨rfl, Nat.le_of_ble_eq_true rfl⟩, ?_⟩
  show kWP _ _ (kRun G (d + 0)) _ 0 [some (.ref (A lRd)), some (.int a1)] [] _ _ _
  have K : (fun z : (Unit × kM) => ∀ h1, kRl A T z.2 h1 → kPV A T z (.inl none) h1) z := fun _ q => ⟨rfl, q⟩
  unfold F_31 at hF
  refine k_aload_n (pc := 0) i_31_0 rfl rfl ?_
  refine k_getf (pc := 1) i_31_1 f_2_25 (rd_Rd R) rfl ?_
  refine k_bipush (pc := 4) (v := 60) i_31_4 (by decide) ?_
  refine k_icmp_ge (pc := 6) (tgt := 29) i_31_6 (by decide) (fun c1 => ?_) (fun c1 => ?_)
  · rw [if_pos c1] at hF
    obtain rfl := Option.some.inj hF
    exact k_return (pc := 29) i_31_29 rfl (K _ R)
  · rw [if_neg c1] at hF
    refine k_aload_n (pc := 9) i_31_9 rfl rfl ?_
    refine k_getf (pc := 10) i_31_10 f_2_9 (rd_Rd R) rfl ?_
    refine k_aload_n (pc := 13) i_31_13 rfl rfl ?_
    refine k_getf (pc := 14) i_31_14 f_2_25 (rd_Rd R) rfl ?_
    refine k_iload_n (pc := 17) i_31_17 rfl ?_
    obtain ⟨g2, hF⟩ := kGx_el hF
    refine k_iast (pc := 18) i_31_18 (rd_Wo R) g2 (fun h e3 => ?_)
    replace R := kRl_sp (l := lWo) (k := (gp M lRd 1).toNatClampNeg) (v := a1) R rfl e3
    clear e3
    refine k_aload_n (pc := 19) i_31_19 rfl rfl ?_
    refine k_dup (pc := 20) i_31_20 rfl ?_
    refine k_getf (pc := 21) i_31_21 f_2_25 (rd_Rd R) rfl ?_
    refine k_iconst (pc := 24) (v := 1) i_31_24 (by decide) ?_
    refine k_iadd (pc := 25) i_31_25 ?_
    refine k_putf (pc := 26) i_31_26 f_2_25 (rd_Rd R) (by decide +kernel) (Nat.le_of_ble_eq_true rfl) rfl rfl rfl (fun h e4 => ?_)
    replace R := kRl_sp (l := lRd) (k := 1) (v := (gp (sp M lWo (gp M lRd 1).toNatClampNeg a1) lRd 1) + 1) R rfl e4
    clear e4
    obtain rfl := Option.some.inj hF
    exact k_return (pc := 29) i_31_29 rfl (K _ R)
-- 33: RD$Reader failed
noncomputable def F_33 (T : kT) (M : kM) : Option (Int32 × kM) :=
  if (gp M lRd 2) = (-1) then (some (0, M)) else (some (1, M))
set_option maxHeartbeats 1000000 in
theorem D_33 {G : kG} {d : Nat} {A : kLb → Nat} {T : kT} {M : kM} {h : kH} {z : (Int32 × kM)} (R : kRl A T M h) (hF : F_33 T  M = some z) : kRun G (d + 1) 33 [.ref (A lRd)] h 0 0 (kPI A T z) := by
  refine ⟨⟨rfl, Nat.le_of_ble_eq_true rfl⟩, ?_⟩
  show kWP _ _ (kRun G (d + 0)) _ 0 [some (.ref (A lRd))] [] _ _ _
  have K : (fun z : (Int32 × kM) => ∀ h1, kRl A T z.2 h1 → kPI A T z (.inl (some (.int z.1))) h1) z := fun _ q => ⟨rfl, q⟩
  unfold F_33 at hF
  refine k_aload_n (pc := 0) i_33_0 rfl rfl ?_
  refine k_getf (pc := 1) i_33_1 f_2_21 (rd_Rd R) rfl ?_
  refine k_iconst (pc := 4) (v := (-1)) i_33_4 (by decide) ?_
  refine k_icmp_eq (pc := 5) (tgt := 12) i_33_5 (by decide) (fun c1 => ?_) (fun c1 => ?_)
  · rw [if_pos c1] at hF
    refine k_iconst (pc := 12) (v := 0) i_33_12 (by decide) ?_
    obtain rfl := Option.some.inj hF
    exact k_ireturn (pc := 13) i_33_13 rfl rfl (K _ R)
  · rw [if_neg c1] at hF
    refine k_iconst (pc := 8) (v := 1) i_33_8 (by decide) ?_
    refine k_goto (pc := 9) (tgt := 13) i_33_9 (by decide) ?_
    obtain rfl := Option.some.inj hF
    exact k_ireturn (pc := 13) i_33_13 rfl rfl (K _ R)
-- 34: RD$Reader fail
noncomputable def F_34 (T : kT) (a1 : Int32) (M : kM) : Option (Unit × kM) :=
  if (gp M lRd 2) = (-1) then (some ((), sp M lRd 2 a1)) else (some ((), M))
set_option maxHeartbeats 1000000 in
theorem D_34 {G : kG} {d : Nat} {A : kLb → Nat} {T : kT} {M : kM} {h : kH} {a1 : Int32} {z : (Unit × kM)} (R : kRl A T M h) (hF : F_34 T a1 M = some z) : kRun G (d + 1) 34 [.ref (A lRd), .int a1] h 0 0 (kPV A T z) := by
  refine ⟨⟨rfl, Nat.le_of_ble_eq_true rfl⟩, ?_⟩
  show kWP _ _ (kRun G (d + 0)) _ 0 [some (.ref (A lRd)), some (.int a1)] [] _ _ _
  have K : (fun z : (Unit × kM) => ∀ h1, kRl A T z.2 h1 → kPV A T z (.inl none) h1) z := fun _ q => ⟨rfl, q⟩
  unfold F_34 at hF
  refine k_aload_n (pc := 0) i_34_0 rfl rfl ?_
  refine k_getf (pc := 1) i_34_1 f_2_21 (rd_Rd R) rfl ?_
  refine k_iconst (pc := 4) (v := (-1)) i_34_4 (by decide) ?_
  refine k_icmp_ne (pc := 5) (tgt := 13) i_34_5 (by decide) (fun c1 => ?_) (fun c1 => ?_)
  · rw [if_neg c1] at hF
    obtain rfl := Option.some.inj hF
    exact k_return (pc := 13) i_34_13 rfl (K _ R)
  · rw [if_pos c1] at hF
    refine k_aload_n (pc := 8) i_34_8 rfl rfl ?_
    refine k_iload_n (pc := 9) i_34_9 rfl ?_
    refine k_putf (pc := 10) i_34_10 f_2_21 (rd_Rd R) (by decide +kernel) (Nat.le_of_ble_eq_true rfl) rfl rfl rfl (fun h e2 => ?_)
    replace R := kRl_sp (l := lRd) (k := 2) (v := a1) R rfl e2
    clear e2
    obtain rfl := Option.some.inj hF
    exact k_return (pc := 13) i_34_13 rfl (K _ R)
-- 35: RD$Reader nextWord
noncomputable def F_35_29 (T : kT) (M : kM) : Option (Int32 × kM) :=
  kBd (F_34 T (gp M lRd 1) M) (fun r6 M7 => some (0, M7))
set_option maxHeartbeats 1000000 in
theorem W_35_29 {G : kG} {d : Nat} {A : kLb → Nat} {C : kCl} {P : kO → kH → Prop} {T : kT} {M : kM} {h : kH} {b1 : Option Value} {z : (Int32 × kM)} (hC : C = kRun G (d + 1)) (R : kRl A T M h) (K : (fun z : (Int32 × kM) => ∀ h1, kRl A T z.2 h1 → P (.inl (some (.int z.1))) h1) z) (hF : F_35_29 T  M = some z) : kWP G 35 C P 29 [some (.ref (A lRd)), b1] [] h 0 0 := by
  unfold F_35_29 at hF
  refine k_aload_n (pc := 29) i_35_29 rfl rfl ?_
  refine k_aload_n (pc := 30) i_35_30 rfl rfl ?_
  refine k_getf (pc := 31) i_35_31 f_2_25 (rd_Rd R) rfl ?_
  obtain ⟨r6, M7, q8, hF⟩ := kBd_el hF
  refine kcv_V (pc := 34) (As := [.ref (A lRd), .int (gp M lRd 1)]) (st := []) (A := A) (T := T) (r := r6) (M1 := M7) i_35_34 m_2_38 rfl rfl rfl rfl (rd_Rd R) rfl (Nat.le_of_ble_eq_true rfl) (hC ▸ D_34 R q8) (fun h R => ?_)
  refine k_iconst (pc := 37) (v := 0) i_35_37 (by decide) ?_
  obtain rfl := Option.some.inj hF
  exact k_ireturn (pc := 38) i_35_38 rfl rfl (K _ R)
noncomputable def F_35 (T : kT) (M : kM) : Option (Int32 × kM) :=
  kBd (F_33 T  M) (fun r1 M2 => if r1 = 0 then (if (gp M2 lRd 1) ≤ (gp M2 lRd 3) then (F_35_29 T  M2) else (if (gp M2 lRd 3) < 60 then (kGx (gp M2 lRd 3) 60 (some (gp M2 lWo (gp M2 lRd 3).toNatClampNeg, sp M2 lRd 3 ((gp M2 lRd 3) + 1)))) else (F_35_29 T  M2))) else (some (0, M2)))
set_option maxHeartbeats 1000000 in
theorem D_35 {G : kG} {d : Nat} {A : kLb → Nat} {T : kT} {M : kM} {h : kH} {z : (Int32 × kM)} (R : kRl A T M h) (hF : F_35 T  M = some z) : kRun G (d + 2) 35 [.ref (A lRd)] h 0 0 (kPI A T z) := by
  refine ⟨⟨rfl, Nat.le_of_ble_eq_true rfl⟩, ?_⟩
  show kWP _ _ (kRun G (d + 1)) _ 0 [some (.ref (A lRd)), none] [] _ _ _
  have K : (fun z : (Int32 × kM) => ∀ h1, kRl A T z.2 h1 → kPI A T z (.inl (some (.int z.1))) h1) z := fun _ q => ⟨rfl, q⟩
  unfold F_35 at hF
  refine k_aload_n (pc := 0) i_35_0 rfl rfl ?_
  obtain ⟨r1, M2, q3, hF⟩ := kBd_el hF
  refine kcv_I (pc := 1) (As := [.ref (A lRd)]) (st := []) (A := A) (T := T) (r := r1) (M1 := M2) i_35_1 m_2_42 rfl rfl rfl rfl (rd_Rd R) rfl (Nat.le_of_ble_eq_true rfl) (D_33 R q3) (fun h R => ?_)
  refine k_if_eq (pc := 4) (tgt := 9) i_35_4 (by decide) (fun c4 => ?_) (fun c4 => ?_)
  · rw [if_pos c4] at hF
    refine k_aload_n (pc := 9) i_35_9 rfl rfl ?_
    refine k_getf (pc := 10) i_35_10 f_2_28 (rd_Rd R) rfl ?_
    refine k_aload_n (pc := 13) i_35_13 rfl rfl ?_
    refine k_getf (pc := 14) i_35_14 f_2_25 (rd_Rd R) rfl ?_
    refine k_icmp_ge (pc := 17) (tgt := 29) i_35_17 (by decide) (fun c5 => ?_) (fun c5 => ?_)
    · rw [if_pos c5] at hF
      exact W_35_29 (d := d) rfl R K hF
    · rw [if_neg c5] at hF
      refine k_aload_n (pc := 20) i_35_20 rfl rfl ?_
      refine k_getf (pc := 21) i_35_21 f_2_28 (rd_Rd R) rfl ?_
      refine k_bipush (pc := 24) (v := 60) i_35_24 (by decide) ?_
      refine k_icmp_lt (pc := 26) (tgt := 39) i_35_26 (by decide) (fun c6 => ?_) (fun c6 => ?_)
      · rw [if_pos c6] at hF
        refine k_aload_n (pc := 39) i_35_39 rfl rfl ?_
        refine k_getf (pc := 40) i_35_40 f_2_9 (rd_Rd R) rfl ?_
        refine k_aload_n (pc := 43) i_35_43 rfl rfl ?_
        refine k_getf (pc := 44) i_35_44 f_2_28 (rd_Rd R) rfl ?_
        obtain ⟨g7, hF⟩ := kGx_el hF
        refine k_iald (pc := 47) i_35_47 (rd_Wo R) g7 ?_
        refine k_istore_n (pc := 48) (lo2 := [some (.ref (A lRd)), some (.int (gp M2 lWo (gp M2 lRd 3).toNatClampNeg))]) i_35_48 (Nat.le_of_ble_eq_true rfl) rfl ?_
        refine k_aload_n (pc := 49) i_35_49 rfl rfl ?_
        refine k_dup (pc := 50) i_35_50 rfl ?_
        refine k_getf (pc := 51) i_35_51 f_2_28 (rd_Rd R) rfl ?_
        refine k_iconst (pc := 54) (v := 1) i_35_54 (by decide) ?_
        refine k_iadd (pc := 55) i_35_55 ?_
        refine k_putf (pc := 56) i_35_56 f_2_28 (rd_Rd R) (by decide +kernel) (Nat.le_of_ble_eq_true rfl) rfl rfl rfl (fun h e8 => ?_)
        replace R := kRl_sp (l := lRd) (k := 3) (v := (gp M2 lRd 3) + 1) R rfl e8
        clear e8
        refine k_iload_n (pc := 59) i_35_59 rfl ?_
        obtain rfl := Option.some.inj hF
        exact k_ireturn (pc := 60) i_35_60 rfl rfl (K _ R)
      · rw [if_neg c6] at hF
        exact W_35_29 (d := d) rfl R K hF
  · rw [if_neg c4] at hF
    refine k_iconst (pc := 7) (v := 0) i_35_7 (by decide) ?_
    obtain rfl := Option.some.inj hF
    exact k_ireturn (pc := 8) i_35_8 rfl rfl (K _ R)
-- 36: RD$Reader nextWithin
noncomputable def F_36_23 (T : kT) (a1 : Int32) (a3 : Int32) (M : kM) : Option (Int32 × kM) :=
  kBd (F_34 T a3 M) (fun r5 M6 => some (a1, M6))
set_option maxHeartbeats 1000000 in
theorem W_36_23 {G : kG} {d : Nat} {A : kLb → Nat} {C : kCl} {P : kO → kH → Prop} {T : kT} {M : kM} {h : kH} {a1 : Int32} {a3 : Int32} {b2 b4 : Option Value} {z : (Int32 × kM)} (hC : C = kRun G (d + 2)) (R : kRl A T M h) (K : (fun z : (Int32 × kM) => ∀ h1, kRl A T z.2 h1 → P (.inl (some (.int z.1))) h1) z) (hF : F_36_23 T a1 a3 M = some z) : kWP G 36 C P 23 [some (.ref (A lRd)), some (.int a1), b2, some (.int a3), b4] [] h 0 0 := by
  unfold F_36_23 at hF
  refine k_aload_n (pc := 23) i_36_23 rfl rfl ?_
  refine k_iload_n (pc := 24) i_36_24 rfl ?_
  obtain ⟨r5, M6, q7, hF⟩ := kBd_el hF
  refine kcv_V (pc := 25) (As := [.ref (A lRd), .int a3]) (st := []) (A := A) (T := T) (r := r5) (M1 := M6) i_36_25 m_2_38 rfl rfl rfl rfl (rd_Rd R) rfl (Nat.le_of_ble_eq_true rfl) (hC ▸ D_34 R q7) (fun h R => ?_)
  refine k_iload_n (pc := 28) i_36_28 rfl ?_
  obtain rfl := Option.some.inj hF
  exact k_ireturn (pc := 29) i_36_29 rfl rfl (K _ R)
noncomputable def F_36 (T : kT) (a1 : Int32) (a2 : Int32) (M : kM) : Option (Int32 × kM) :=
  kBd (F_35 T  M) (fun r1 M2 => if r1 < a1 then (F_36_23 T a1 (gp M lRd 3) M2) else (if r1 ≤ a2 then (some (r1, M2)) else (F_36_23 T a1 (gp M lRd 3) M2)))
set_option maxHeartbeats 1000000 in
theorem D_36 {G : kG} {d : Nat} {A : kLb → Nat} {T : kT} {M : kM} {h : kH} {a1 : Int32} {a2 : Int32} {z : (Int32 × kM)} (R : kRl A T M h) (hF : F_36 T a1 a2 M = some z) : kRun G (d + 3) 36 [.ref (A lRd), .int a1, .int a2] h 0 0 (kPI A T z) := by
  refine ⟨⟨rfl, Nat.le_of_ble_eq_true rfl⟩, ?_⟩
  show kWP _ _ (kRun G (d + 2)) _ 0 [some (.ref (A lRd)), some (.int a1), some (.int a2), none, none] [] _ _ _
  have K : (fun z : (Int32 × kM) => ∀ h1, kRl A T z.2 h1 → kPI A T z (.inl (some (.int z.1))) h1) z := fun _ q => ⟨rfl, q⟩
  unfold F_36 at hF
  refine k_aload_n (pc := 0) i_36_0 rfl rfl ?_
  refine k_getf (pc := 1) i_36_1 f_2_28 (rd_Rd R) rfl ?_
  refine k_istore_n (pc := 4) (lo2 := [some (.ref (A lRd)), some (.int a1), some (.int a2), some (.int (gp M lRd 3)), none]) i_36_4 (Nat.le_of_ble_eq_true rfl) rfl ?_
  refine k_aload_n (pc := 5) i_36_5 rfl rfl ?_
  obtain ⟨r1, M2, q3, hF⟩ := kBd_el hF
  refine kcv_I (pc := 6) (As := [.ref (A lRd)]) (st := []) (A := A) (T := T) (r := r1) (M1 := M2) i_36_6 m_2_46 rfl rfl rfl rfl (rd_Rd R) rfl (Nat.le_of_ble_eq_true rfl) (D_35 R q3) (fun h R => ?_)
  refine k_istore (pc := 9) (lo2 := [some (.ref (A lRd)), some (.int a1), some (.int a2), some (.int (gp M lRd 3)), some (.int r1)]) i_36_9 (Nat.le_of_ble_eq_true rfl) rfl ?_
  refine k_iload (pc := 11) i_36_11 rfl ?_
  refine k_iload_n (pc := 13) i_36_13 rfl ?_
  refine k_icmp_lt (pc := 14) (tgt := 23) i_36_14 (by decide) (fun c4 => ?_) (fun c4 => ?_)
  · rw [if_pos c4] at hF
    exact W_36_23 (d := d) rfl R K hF
  · rw [if_neg c4] at hF
    refine k_iload (pc := 17) i_36_17 rfl ?_
    refine k_iload_n (pc := 19) i_36_19 rfl ?_
    refine k_icmp_le (pc := 20) (tgt := 30) i_36_20 (by decide) (fun c5 => ?_) (fun c5 => ?_)
    · rw [if_pos c5] at hF
      refine k_iload (pc := 30) i_36_30 rfl ?_
      obtain rfl := Option.some.inj hF
      exact k_ireturn (pc := 32) i_36_32 rfl rfl (K _ R)
    · rw [if_neg c5] at hF
      exact W_36_23 (d := d) rfl R K hF
-- 39: RD$Reader partsOf
noncomputable def F_39 (T : kT) (a0 : Int32) (M : kM) : Option (Int32 × kM) :=
  if a0 = 0 then (some (0, M)) else (if a0 = 3 then (some (2, M)) else (if a0 = 4 then (some (2, M)) else (if a0 = 5 then (some (2, M)) else (some (1, M)))))
set_option maxHeartbeats 1000000 in
theorem D_39 {G : kG} {d : Nat} {A : kLb → Nat} {T : kT} {M : kM} {h : kH} {a0 : Int32} {z : (Int32 × kM)} (R : kRl A T M h) (hF : F_39 T a0 M = some z) : kRun G (d + 1) 39 [.int a0] h 0 0 (kPI A T z) := by
  refine ⟨⟨rfl, Nat.le_of_ble_eq_true rfl⟩, ?_⟩
  show kWP _ _ (kRun G (d + 0)) _ 0 [some (.int a0)] [] _ _ _
  have K : (fun z : (Int32 × kM) => ∀ h1, kRl A T z.2 h1 → kPI A T z (.inl (some (.int z.1))) h1) z := fun _ q => ⟨rfl, q⟩
  unfold F_39 at hF
  refine k_iload_n (pc := 0) i_39_0 rfl ?_
  refine k_if_ne (pc := 1) (tgt := 6) i_39_1 (by decide) (fun c1 => ?_) (fun c1 => ?_)
  · rw [if_neg c1] at hF
    refine k_iload_n (pc := 6) i_39_6 rfl ?_
    refine k_iconst (pc := 7) (v := 3) i_39_7 (by decide) ?_
    refine k_icmp_eq (pc := 8) (tgt := 21) i_39_8 (by decide) (fun c2 => ?_) (fun c2 => ?_)
    · rw [if_pos c2] at hF
      refine k_iconst (pc := 21) (v := 2) i_39_21 (by decide) ?_
      refine k_goto (pc := 22) (tgt := 26) i_39_22 (by decide) ?_
      obtain rfl := Option.some.inj hF
      exact k_ireturn (pc := 26) i_39_26 rfl rfl (K _ R)
    · rw [if_neg c2] at hF
      refine k_iload_n (pc := 11) i_39_11 rfl ?_
      refine k_iconst (pc := 12) (v := 4) i_39_12 (by decide) ?_
      refine k_icmp_eq (pc := 13) (tgt := 21) i_39_13 (by decide) (fun c3 => ?_) (fun c3 => ?_)
      · rw [if_pos c3] at hF
        refine k_iconst (pc := 21) (v := 2) i_39_21 (by decide) ?_
        refine k_goto (pc := 22) (tgt := 26) i_39_22 (by decide) ?_
        obtain rfl := Option.some.inj hF
        exact k_ireturn (pc := 26) i_39_26 rfl rfl (K _ R)
      · rw [if_neg c3] at hF
        refine k_iload_n (pc := 16) i_39_16 rfl ?_
        refine k_iconst (pc := 17) (v := 5) i_39_17 (by decide) ?_
        refine k_icmp_ne (pc := 18) (tgt := 25) i_39_18 (by decide) (fun c4 => ?_) (fun c4 => ?_)
        · rw [if_neg c4] at hF
          refine k_iconst (pc := 25) (v := 1) i_39_25 (by decide) ?_
          obtain rfl := Option.some.inj hF
          exact k_ireturn (pc := 26) i_39_26 rfl rfl (K _ R)
        · rw [if_pos c4] at hF
          refine k_iconst (pc := 21) (v := 2) i_39_21 (by decide) ?_
          refine k_goto (pc := 22) (tgt := 26) i_39_22 (by decide) ?_
          obtain rfl := Option.some.inj hF
          exact k_ireturn (pc := 26) i_39_26 rfl rfl (K _ R)
  · rw [if_pos c1] at hF
    refine k_iconst (pc := 4) (v := 0) i_39_4 (by decide) ?_
    obtain rfl := Option.some.inj hF
    exact k_ireturn (pc := 5) i_39_5 rfl rfl (K _ R)
-- 40: RD$Reader readNumbers
noncomputable def B_40_128 (T : kT) (a1 : Nat) (a3 : Int32) (M : kM) : Option ((Int32 × kM) ⊕ (Unit × kM)) :=
  kGd (kLv T (lTm a1)) (if (gp M (lTm a1) 4) ≤ a3 then (some (.inr (((), M)))) else (if 8 ≤ a3 then (some (.inr (((), M)))) else (kBd (F_35 T  M) (fun r32 M33 => kGx a3 8 (some (.inl ((a3 + 1), sp M33 (lPk a1) a3.toNatClampNeg r32)))))))
noncomputable def F_40_128 (T : kT) (a1 : Nat) (a3 : Int32) (M : kM) : Option (Unit × kM) :=
  kWh (fun w : (Int32 × kM) => B_40_128 T a1 w.1 w.2) (a3, M)
theorem F_40_128_eq (T : kT) (a1 : Nat) (a3 : Int32) (M : kM) : F_40_128 T a1 a3 M = kAg (B_40_128 T a1 a3 M) (fun w => F_40_128 T a1 w.1 w.2) := by
  unfold F_40_128
  rw [kWh_eq]
set_option maxHeartbeats 1000000 in
theorem W_40_128 {G : kG} {d : Nat} {A : kLb → Nat} {C : kCl} {P : kO → kH → Prop} {T : kT} {M : kM} {h : kH} {a1 : Nat} {a3 : Int32} {b2 : Option Value} {z : (Unit × kM)} (hC : C = kRun G (d + 3)) (R : kRl A T M h) (K : (fun z : (Unit × kM) => ∀ h1, kRl A T z.2 h1 → P (.inl none) h1) z) (hF : F_40_128 T a1 a3 M = some z) : kWP G 40 C P 128 [some (.ref (A lRd)), some (.ref (A (lTm a1))), b2, some (.int a3)] [] h 0 0 := by
  refine kWh_ind (P := (fun w : (Int32 × kM) => ∀ (h : kH) (b2 : Option Value), kRl A T w.2 h → kWP G 40 C P 128 [some (.ref (A lRd)), some (.ref (A (lTm a1))), b2, some (.int w.1)] [] h 0 0)) (Q := (fun z : (Unit × kM) => ∀ h1, kRl A T z.2 h1 → P (.inl none) h1)) hF K ?_ h _ R
  clear hF K R
  intro w z hF K h b2 R
  obtain ⟨a3, M⟩ := w
  change B_40_128 T a1 a3 M = some z at hF
  change kWP G 40 C P 128 [some (.ref (A lRd)), some (.ref (A (lTm a1))), b2, some (.int a3)] [] h 0 0
  unfold B_40_128 at hF
  refine k_iload_n (pc := 128) i_40_128 rfl ?_
  refine k_aload_n (pc := 129) i_40_129 rfl rfl ?_
  obtain ⟨g29, hF⟩ := kGd_el hF
  refine k_getf (pc := 130) i_40_130 f_2_108 (rd_Tm (i := a1) R g29) rfl ?_
  refine k_icmp_ge (pc := 133) (tgt := 158) i_40_133 (by decide) (fun c30 => ?_) (fun c30 => ?_)
  · rw [if_pos c30] at hF
    refine k_goto (pc := 158) (tgt := 244) i_40_158 (by decide) ?_
    obtain rfl := Option.some.inj hF
    exact k_return (pc := 244) i_40_244 rfl (K _ R)
  · rw [if_neg c30] at hF
    refine k_iload_n (pc := 136) i_40_136 rfl ?_
    refine k_bipush (pc := 137) (v := 8) i_40_137 (by decide) ?_
    refine k_icmp_ge (pc := 139) (tgt := 158) i_40_139 (by decide) (fun c31 => ?_) (fun c31 => ?_)
    · rw [if_pos c31] at hF
      refine k_goto (pc := 158) (tgt := 244) i_40_158 (by decide) ?_
      obtain rfl := Option.some.inj hF
      exact k_return (pc := 244) i_40_244 rfl (K _ R)
    · rw [if_neg c31] at hF
      refine k_aload_n (pc := 142) i_40_142 rfl rfl ?_
      refine k_getf (pc := 143) i_40_143 f_2_111 (rd_Tm (i := a1) R g29) rfl ?_
      refine k_iload_n (pc := 146) i_40_146 rfl ?_
      refine k_aload_n (pc := 147) i_40_147 rfl rfl ?_
      obtain ⟨r32, M33, q34, hF⟩ := kBd_el hF
      refine kcv_I (pc := 148) (As := [.ref (A lRd)]) (st := [.int a3, .ref (A (lPk a1))]) (A := A) (T := T) (r := r32) (M1 := M33) i_40_148 m_2_46 rfl rfl rfl rfl (rd_Rd R) rfl (Nat.le_of_ble_eq_true rfl) (hC ▸ D_35 R q34) (fun h R => ?_)
      obtain ⟨g35, hF⟩ := kGx_el hF
      refine k_iast (pc := 151) i_40_151 (rd_Pk (i := a1) R g29) g35 (fun h e36 => ?_)
      replace R := kRl_sp (l := (lPk a1)) (k := a3.toNatClampNeg) (v := r32) R g29 e36
      clear e36
      refine k_iinc (pc := 152) (v := a3 + 1) (lo2 := [some (.ref (A lRd)), some (.ref (A (lTm a1))), b2, some (.int (a3 + 1))]) i_40_152 rfl rfl rfl ?_
      refine k_goto (pc := 155) (tgt := 128) i_40_155 (by decide) ?_
      obtain rfl := Option.some.inj hF
      exact K _ _ R
noncomputable def F_40 (T : kT) (a1 : Option Nat) (M : kM) : Option (Unit × kM) :=
  kOpt a1 none (fun j1 => kGd (kLv T (lTm j1)) (if (gp M (lTm j1) 0) = 0 then (kBd (F_36 T 0 ((gp M lTs 1) - 1) M) (fun r4 M5 => kBd (F_83 T r4 M5) (fun r7 M8 => some ((), sq M8 (lTm j1) 6 r7)))) else (if (gp M (lTm j1) 0) = 1 then (kBd (F_35 T  M) (fun r12 M13 => kBd (F_36 T 0 5 (sp M13 (lTm j1) 1 r12)) (fun r16 M17 => kBd (F_35 T  (sp M17 (lTm j1) 3 r16)) (fun r20 M21 => some ((), sp M21 (lTm j1) 4 r20))))) else (if (gp M (lTm j1) 0) = 2 then (kBd (F_36 T 1 8 M) (fun r25 M26 => F_40_128 T j1 0 (sp M26 (lTm j1) 4 r25))) else (if (gp M (lTm j1) 0) = 3 then (some ((), M)) else (if (gp M (lTm j1) 0) = 4 then (kBd (F_35 T  M) (fun r31 M32 => kBd (F_35 T  (sp M32 (lTm j1) 1 r31)) (fun r35 M36 => some ((), sp M36 (lTm j1) 2 r35)))) else (if (gp M (lTm j1) 0) = 5 then (some ((), M)) else (if (gp M (lTm j1) 0) = 6 then (some ((), M)) else (if (gp M (lTm j1) 0) = 7 then (kBd (F_35 T  M) (fun r42 M43 => kBd (F_36 T 0 1 (sp M43 (lTm j1) 1 r42)) (fun r46 M47 => some ((), sp M47 (lTm j1) 3 r46)))) else (if (gp M (lTm j1) 0) = 8 then (kBd (F_36 T 0 100 M) (fun r51 M52 => some ((), sp M52 (lTm j1) 4 r51))) else (if (gp M (lTm j1) 0) = 9 then (some ((), M)) else (if (gp M (lTm j1) 0) = 10 then (kBd (F_35 T  M) (fun r57 M58 => kBd (F_36 T 0 3 (sp M58 (lTm j1) 1 r57)) (fun r61 M62 => kBd (F_35 T  (sp M62 (lTm j1) 3 r61)) (fun r65 M66 => some ((), sp M66 (lTm j1) 2 r65))))) else (some ((), M))))))))))))))
set_option maxHeartbeats 1000000 in
theorem D_40 {G : kG} {d : Nat} {A : kLb → Nat} {T : kT} {M : kM} {h : kH} {a1 : Option Nat} {z : (Unit × kM)} (R : kRl A T M h) (hF : F_40 T a1 M = some z) : kRun G (d + 4) 40 [.ref (A lRd), rTm A a1, .ref (A lTs)] h 0 0 (kPV A T z) := by
  refine ⟨⟨by cases a1 <;> rfl, Nat.le_of_ble_eq_true rfl⟩, ?_⟩
  show kWP _ _ (kRun G (d + 3)) _ 0 [some (.ref (A lRd)), some (rTm A a1), some (.ref (A lTs)), none] [] _ _ _
  have K : (fun z : (Unit × kM) => ∀ h1, kRl A T z.2 h1 → kPV A T z (.inl none) h1) z := fun _ q => ⟨rfl, q⟩
  unfold F_40 at hF
  refine k_aload_n (pc := 0) i_40_0 rfl (rf_is _) ?_
  obtain ⟨j1, rfl, hG⟩ := kOpt_el1 hF
  replace hF := hG
  clear hG
  obtain ⟨g2, hF⟩ := kGd_el hF
  refine k_getf (pc := 1) i_40_1 f_2_66 (rd_Tm (i := j1) R g2) rfl ?_
  by_cases c3 : (gp M (lTm j1) 0) = 0
  · rw [if_pos c3] at hF
    rw [c3]
    refine k_tswIn (pc := 4) (tgt := 64) i_40_4 (by decide) (by decide) rfl (by decide) ?_
    refine k_aload_n (pc := 64) i_40_64 rfl rfl ?_
    refine k_aload_n (pc := 65) i_40_65 rfl rfl ?_
    refine k_aload_n (pc := 66) i_40_66 rfl rfl ?_
    refine k_iconst (pc := 67) (v := 0) i_40_67 (by decide) ?_
    refine k_aload_n (pc := 68) i_40_68 rfl rfl ?_
    refine k_getf (pc := 69) i_40_69 f_2_91 (rd_Ts R) rfl ?_
    refine k_iconst (pc := 72) (v := 1) i_40_72 (by decide) ?_
    refine k_isub (pc := 73) i_40_73 ?_
    obtain ⟨r4, M5, q6, hF⟩ := kBd_el hF
    refine kcv_I (pc := 74) (As := [.ref (A lRd), .int 0, .int ((gp M lTs 1) - 1)]) (st := [.ref (A lTs), .ref (A (lTm j1))]) (A := A) (T := T) (r := r4) (M1 := M5) i_40_74 m_2_54 rfl rfl rfl rfl (rd_Rd R) rfl (Nat.le_of_ble_eq_true rfl) (D_36 R q6) (fun h R => ?_)
    obtain ⟨r7, M8, q9, hF⟩ := kBd_el hF
    refine kcv_B (pc := 77) (As := [.ref (A lTs), .int r4]) (st := [.ref (A (lTm j1))]) (A := A) (T := T) (r := r7) (M1 := M8) i_40_77 m_2_94 rfl rfl rfl rfl (rd_Ts R) rfl (Nat.le_of_ble_eq_true rfl) (D_83 R q9) (fun h R => ?_)
    refine k_putf (pc := 80) i_40_80 f_2_98 (rd_Tm (i := j1) R g2) (by decide +kernel) (Nat.le_of_ble_eq_true rfl) (nar_q _ _) (fit_q _ _) rfl (fun h e10 => ?_)
    replace R := kRl_sq (l := (lTm j1)) (k := 6) (v := r7) R g2 e10
    clear e10
    refine k_goto (pc := 83) (tgt := 244) i_40_83 (by decide) ?_
    obtain rfl := Option.some.inj hF
    exact k_return (pc := 244) i_40_244 rfl (K _ R)
  rw [if_neg c3] at hF
  by_cases c11 : (gp M (lTm j1) 0) = 1
  · rw [if_pos c11] at hF
    rw [c11]
    refine k_tswIn (pc := 4) (tgt := 86) i_40_4 (by decide) (by decide) rfl (by decide) ?_
    refine k_aload_n (pc := 86) i_40_86 rfl rfl ?_
    refine k_aload_n (pc := 87) i_40_87 rfl rfl ?_
    obtain ⟨r12, M13, q14, hF⟩ := kBd_el hF
    refine kcv_I (pc := 88) (As := [.ref (A lRd)]) (st := [.ref (A (lTm j1))]) (A := A) (T := T) (r := r12) (M1 := M13) i_40_88 m_2_46 rfl rfl rfl rfl (rd_Rd R) rfl (Nat.le_of_ble_eq_true rfl) (D_35 R q14) (fun h R => ?_)
    refine k_putf (pc := 91) i_40_91 f_2_102 (rd_Tm (i := j1) R g2) (by decide +kernel) (Nat.le_of_ble_eq_true rfl) rfl rfl rfl (fun h e15 => ?_)
    replace R := kRl_sp (l := (lTm j1)) (k := 1) (v := r12) R g2 e15
    clear e15
    refine k_aload_n (pc := 94) i_40_94 rfl rfl ?_
    refine k_aload_n (pc := 95) i_40_95 rfl rfl ?_
    refine k_iconst (pc := 96) (v := 0) i_40_96 (by decide) ?_
    refine k_iconst (pc := 97) (v := 5) i_40_97 (by decide) ?_
    obtain ⟨r16, M17, q18, hF⟩ := kBd_el hF
    refine kcv_I (pc := 98) (As := [.ref (A lRd), .int 0, .int 5]) (st := [.ref (A (lTm j1))]) (A := A) (T := T) (r := r16) (M1 := M17) i_40_98 m_2_54 rfl rfl rfl rfl (rd_Rd R) rfl (Nat.le_of_ble_eq_true rfl) (D_36 R q18) (fun h R => ?_)
    refine k_putf (pc := 101) i_40_101 f_2_105 (rd_Tm (i := j1) R g2) (by decide +kernel) (Nat.le_of_ble_eq_true rfl) rfl rfl rfl (fun h e19 => ?_)
    replace R := kRl_sp (l := (lTm j1)) (k := 3) (v := r16) R g2 e19
    clear e19
    refine k_aload_n (pc := 104) i_40_104 rfl rfl ?_
    refine k_aload_n (pc := 105) i_40_105 rfl rfl ?_
    obtain ⟨r20, M21, q22, hF⟩ := kBd_el hF
    refine kcv_I (pc := 106) (As := [.ref (A lRd)]) (st := [.ref (A (lTm j1))]) (A := A) (T := T) (r := r20) (M1 := M21) i_40_106 m_2_46 rfl rfl rfl rfl (rd_Rd R) rfl (Nat.le_of_ble_eq_true rfl) (D_35 R q22) (fun h R => ?_)
    refine k_putf (pc := 109) i_40_109 f_2_108 (rd_Tm (i := j1) R g2) (by decide +kernel) (Nat.le_of_ble_eq_true rfl) rfl rfl rfl (fun h e23 => ?_)
    replace R := kRl_sp (l := (lTm j1)) (k := 4) (v := r20) R g2 e23
    clear e23
    refine k_goto (pc := 112) (tgt := 244) i_40_112 (by decide) ?_
    obtain rfl := Option.some.inj hF
    exact k_return (pc := 244) i_40_244 rfl (K _ R)
  rw [if_neg c11] at hF
  by_cases c24 : (gp M (lTm j1) 0) = 2
  · rw [if_pos c24] at hF
    rw [c24]
    refine k_tswIn (pc := 4) (tgt := 115) i_40_4 (by decide) (by decide) rfl (by decide) ?_
    refine k_aload_n (pc := 115) i_40_115 rfl rfl ?_
    refine k_aload_n (pc := 116) i_40_116 rfl rfl ?_
    refine k_iconst (pc := 117) (v := 1) i_40_117 (by decide) ?_
    refine k_bipush (pc := 118) (v := 8) i_40_118 (by decide) ?_
    obtain ⟨r25, M26, q27, hF⟩ := kBd_el hF
    refine kcv_I (pc := 120) (As := [.ref (A lRd), .int 1, .int 8]) (st := [.ref (A (lTm j1))]) (A := A) (T := T) (r := r25) (M1 := M26) i_40_120 m_2_54 rfl rfl rfl rfl (rd_Rd R) rfl (Nat.le_of_ble_eq_true rfl) (D_36 R q27) (fun h R => ?_)
    refine k_putf (pc := 123) i_40_123 f_2_108 (rd_Tm (i := j1) R g2) (by decide +kernel) (Nat.le_of_ble_eq_true rfl) rfl rfl rfl (fun h e28 => ?_)
    replace R := kRl_sp (l := (lTm j1)) (k := 4) (v := r25) R g2 e28
    clear e28
    refine k_iconst (pc := 126) (v := 0) i_40_126 (by decide) ?_
    refine k_istore_n (pc := 127) (lo2 := [some (.ref (A lRd)), some (.ref (A (lTm j1))), some (.ref (A lTs)), some (.int 0)]) i_40_127 (Nat.le_of_ble_eq_true rfl) rfl ?_
    exact W_40_128 (d := d) rfl R K hF
  rw [if_neg c24] at hF
  by_cases c29 : (gp M (lTm j1) 0) = 3
  · rw [if_pos c29] at hF
    rw [c29]
    refine k_tswIn (pc := 4) (tgt := 244) i_40_4 (by decide) (by decide) rfl (by decide) ?_
    obtain rfl := Option.some.inj hF
    exact k_return (pc := 244) i_40_244 rfl (K _ R)
  rw [if_neg c29] at hF
  by_cases c30 : (gp M (lTm j1) 0) = 4
  · rw [if_pos c30] at hF
    rw [c30]
    refine k_tswIn (pc := 4) (tgt := 161) i_40_4 (by decide) (by decide) rfl (by decide) ?_
    refine k_aload_n (pc := 161) i_40_161 rfl rfl ?_
    refine k_aload_n (pc := 162) i_40_162 rfl rfl ?_
    obtain ⟨r31, M32, q33, hF⟩ := kBd_el hF
    refine kcv_I (pc := 163) (As := [.ref (A lRd)]) (st := [.ref (A (lTm j1))]) (A := A) (T := T) (r := r31) (M1 := M32) i_40_163 m_2_46 rfl rfl rfl rfl (rd_Rd R) rfl (Nat.le_of_ble_eq_true rfl) (D_35 R q33) (fun h R => ?_)
    refine k_putf (pc := 166) i_40_166 f_2_102 (rd_Tm (i := j1) R g2) (by decide +kernel) (Nat.le_of_ble_eq_true rfl) rfl rfl rfl (fun h e34 => ?_)
    replace R := kRl_sp (l := (lTm j1)) (k := 1) (v := r31) R g2 e34
    clear e34
    refine k_aload_n (pc := 169) i_40_169 rfl rfl ?_
    refine k_aload_n (pc := 170) i_40_170 rfl rfl ?_
    obtain ⟨r35, M36, q37, hF⟩ := kBd_el hF
    refine kcv_I (pc := 171) (As := [.ref (A lRd)]) (st := [.ref (A (lTm j1))]) (A := A) (T := T) (r := r35) (M1 := M36) i_40_171 m_2_46 rfl rfl rfl rfl (rd_Rd R) rfl (Nat.le_of_ble_eq_true rfl) (D_35 R q37) (fun h R => ?_)
    refine k_putf (pc := 174) i_40_174 f_2_114 (rd_Tm (i := j1) R g2) (by decide +kernel) (Nat.le_of_ble_eq_true rfl) rfl rfl rfl (fun h e38 => ?_)
    replace R := kRl_sp (l := (lTm j1)) (k := 2) (v := r35) R g2 e38
    clear e38
    refine k_goto (pc := 177) (tgt := 244) i_40_177 (by decide) ?_
    obtain rfl := Option.some.inj hF
    exact k_return (pc := 244) i_40_244 rfl (K _ R)
  rw [if_neg c30] at hF
  by_cases c39 : (gp M (lTm j1) 0) = 5
  · rw [if_pos c39] at hF
    rw [c39]
    refine k_tswIn (pc := 4) (tgt := 244) i_40_4 (by decide) (by decide) rfl (by decide) ?_
    obtain rfl := Option.some.inj hF
    exact k_return (pc := 244) i_40_244 rfl (K _ R)
  rw [if_neg c39] at hF
  by_cases c40 : (gp M (lTm j1) 0) = 6
  · rw [if_pos c40] at hF
    rw [c40]
    refine k_tswIn (pc := 4) (tgt := 244) i_40_4 (by decide) (by decide) rfl (by decide) ?_
    obtain rfl := Option.some.inj hF
    exact k_return (pc := 244) i_40_244 rfl (K _ R)
  rw [if_neg c40] at hF
  by_cases c41 : (gp M (lTm j1) 0) = 7
  · rw [if_pos c41] at hF
    rw [c41]
    refine k_tswIn (pc := 4) (tgt := 180) i_40_4 (by decide) (by decide) rfl (by decide) ?_
    refine k_aload_n (pc := 180) i_40_180 rfl rfl ?_
    refine k_aload_n (pc := 181) i_40_181 rfl rfl ?_
    obtain ⟨r42, M43, q44, hF⟩ := kBd_el hF
    refine kcv_I (pc := 182) (As := [.ref (A lRd)]) (st := [.ref (A (lTm j1))]) (A := A) (T := T) (r := r42) (M1 := M43) i_40_182 m_2_46 rfl rfl rfl rfl (rd_Rd R) rfl (Nat.le_of_ble_eq_true rfl) (D_35 R q44) (fun h R => ?_)
    refine k_putf (pc := 185) i_40_185 f_2_102 (rd_Tm (i := j1) R g2) (by decide +kernel) (Nat.le_of_ble_eq_true rfl) rfl rfl rfl (fun h e45 => ?_)
    replace R := kRl_sp (l := (lTm j1)) (k := 1) (v := r42) R g2 e45
    clear e45
    refine k_aload_n (pc := 188) i_40_188 rfl rfl ?_
    refine k_aload_n (pc := 189) i_40_189 rfl rfl ?_
    refine k_iconst (pc := 190) (v := 0) i_40_190 (by decide) ?_
    refine k_iconst (pc := 191) (v := 1) i_40_191 (by decide) ?_
    obtain ⟨r46, M47, q48, hF⟩ := kBd_el hF
    refine kcv_I (pc := 192) (As := [.ref (A lRd), .int 0, .int 1]) (st := [.ref (A (lTm j1))]) (A := A) (T := T) (r := r46) (M1 := M47) i_40_192 m_2_54 rfl rfl rfl rfl (rd_Rd R) rfl (Nat.le_of_ble_eq_true rfl) (D_36 R q48) (fun h R => ?_)
    refine k_putf (pc := 195) i_40_195 f_2_105 (rd_Tm (i := j1) R g2) (by decide +kernel) (Nat.le_of_ble_eq_true rfl) rfl rfl rfl (fun h e49 => ?_)
    replace R := kRl_sp (l := (lTm j1)) (k := 3) (v := r46) R g2 e49
    clear e49
    refine k_goto (pc := 198) (tgt := 244) i_40_198 (by decide) ?_
    obtain rfl := Option.some.inj hF
    exact k_return (pc := 244) i_40_244 rfl (K _ R)
  rw [if_neg c41] at hF
  by_cases c50 : (gp M (lTm j1) 0) = 8
  · rw [if_pos c50] at hF
    rw [c50]
    refine k_tswIn (pc := 4) (tgt := 201) i_40_4 (by decide) (by decide) rfl (by decide) ?_
    refine k_aload_n (pc := 201) i_40_201 rfl rfl ?_
    refine k_aload_n (pc := 202) i_40_202 rfl rfl ?_
    refine k_iconst (pc := 203) (v := 0) i_40_203 (by decide) ?_
    refine k_bipush (pc := 204) (v := 100) i_40_204 (by decide) ?_
    obtain ⟨r51, M52, q53, hF⟩ := kBd_el hF
    refine kcv_I (pc := 206) (As := [.ref (A lRd), .int 0, .int 100]) (st := [.ref (A (lTm j1))]) (A := A) (T := T) (r := r51) (M1 := M52) i_40_206 m_2_54 rfl rfl rfl rfl (rd_Rd R) rfl (Nat.le_of_ble_eq_true rfl) (D_36 R q53) (fun h R => ?_)
    refine k_putf (pc := 209) i_40_209 f_2_108 (rd_Tm (i := j1) R g2) (by decide +kernel) (Nat.le_of_ble_eq_true rfl) rfl rfl rfl (fun h e54 => ?_)
    replace R := kRl_sp (l := (lTm j1)) (k := 4) (v := r51) R g2 e54
    clear e54
    refine k_goto (pc := 212) (tgt := 244) i_40_212 (by decide) ?_
    obtain rfl := Option.some.inj hF
    exact k_return (pc := 244) i_40_244 rfl (K _ R)
  rw [if_neg c50] at hF
  by_cases c55 : (gp M (lTm j1) 0) = 9
  · rw [if_pos c55] at hF
    rw [c55]
    refine k_tswIn (pc := 4) (tgt := 244) i_40_4 (by decide) (by decide) rfl (by decide) ?_
    obtain rfl := Option.some.inj hF
    exact k_return (pc := 244) i_40_244 rfl (K _ R)
  rw [if_neg c55] at hF
  by_cases c56 : (gp M (lTm j1) 0) = 10
  · rw [if_pos c56] at hF
    rw [c56]
    refine k_tswIn (pc := 4) (tgt := 215) i_40_4 (by decide) (by decide) rfl (by decide) ?_
    refine k_aload_n (pc := 215) i_40_215 rfl rfl ?_
    refine k_aload_n (pc := 216) i_40_216 rfl rfl ?_
    obtain ⟨r57, M58, q59, hF⟩ := kBd_el hF
    refine kcv_I (pc := 217) (As := [.ref (A lRd)]) (st := [.ref (A (lTm j1))]) (A := A) (T := T) (r := r57) (M1 := M58) i_40_217 m_2_46 rfl rfl rfl rfl (rd_Rd R) rfl (Nat.le_of_ble_eq_true rfl) (D_35 R q59) (fun h R => ?_)
    refine k_putf (pc := 220) i_40_220 f_2_102 (rd_Tm (i := j1) R g2) (by decide +kernel) (Nat.le_of_ble_eq_true rfl) rfl rfl rfl (fun h e60 => ?_)
    replace R := kRl_sp (l := (lTm j1)) (k := 1) (v := r57) R g2 e60
    clear e60
    refine k_aload_n (pc := 223) i_40_223 rfl rfl ?_
    refine k_aload_n (pc := 224) i_40_224 rfl rfl ?_
    refine k_iconst (pc := 225) (v := 0) i_40_225 (by decide) ?_
    refine k_iconst (pc := 226) (v := 3) i_40_226 (by decide) ?_
    obtain ⟨r61, M62, q63, hF⟩ := kBd_el hF
    refine kcv_I (pc := 227) (As := [.ref (A lRd), .int 0, .int 3]) (st := [.ref (A (lTm j1))]) (A := A) (T := T) (r := r61) (M1 := M62) i_40_227 m_2_54 rfl rfl rfl rfl (rd_Rd R) rfl (Nat.le_of_ble_eq_true rfl) (D_36 R q63) (fun h R => ?_)
    refine k_putf (pc := 230) i_40_230 f_2_105 (rd_Tm (i := j1) R g2) (by decide +kernel) (Nat.le_of_ble_eq_true rfl) rfl rfl rfl (fun h e64 => ?_)
    replace R := kRl_sp (l := (lTm j1)) (k := 3) (v := r61) R g2 e64
    clear e64
    refine k_aload_n (pc := 233) i_40_233 rfl rfl ?_
    refine k_aload_n (pc := 234) i_40_234 rfl rfl ?_
    obtain ⟨r65, M66, q67, hF⟩ := kBd_el hF
    refine kcv_I (pc := 235) (As := [.ref (A lRd)]) (st := [.ref (A (lTm j1))]) (A := A) (T := T) (r := r65) (M1 := M66) i_40_235 m_2_46 rfl rfl rfl rfl (rd_Rd R) rfl (Nat.le_of_ble_eq_true rfl) (D_35 R q67) (fun h R => ?_)
    refine k_putf (pc := 238) i_40_238 f_2_114 (rd_Tm (i := j1) R g2) (by decide +kernel) (Nat.le_of_ble_eq_true rfl) rfl rfl rfl (fun h e68 => ?_)
    replace R := kRl_sp (l := (lTm j1)) (k := 2) (v := r65) R g2 e68
    clear e68
    refine k_goto (pc := 241) (tgt := 244) i_40_241 (by decide) ?_
    obtain rfl := Option.some.inj hF
    exact k_return (pc := 244) i_40_244 rfl (K _ R)
  rw [if_neg c56] at hF
  refine k_tswOut (pc := 4) (tgt := 244) i_40_4 (kSwOut (n := 11) (by decide) (fun k hk => match k, hk with | 0, _ => c3 | 1, _ => c11 | 2, _ => c24 | 3, _ => c29 | 4, _ => c30 | 5, _ => c39 | 6, _ => c40 | 7, _ => c41 | 8, _ => c50 | 9, _ => c55 | 10, _ => c56 | k + 11, hk => absurd hk (by omega))) (by decide) ?_
  obtain rfl := Option.some.inj hF
  exact k_return (pc := 244) i_40_244 rfl (K _ R)
-- 42: RD$Reader isWithin
noncomputable def F_42 (T : kT) (a0 : Int32) (a1 : Int32) (M : kM) : Option (Int32 × kM) :=
  if a0 < 0 then (some (0, M)) else (if a1 ≤ a0 then (some (0, M)) else (some (1, M)))
set_option maxHeartbeats 1000000 in
theorem D_42 {G : kG} {d : Nat} {A : kLb → Nat} {T : kT} {M : kM} {h : kH} {a0 : Int32} {a1 : Int32} {z : (Int32 × kM)} (R : kRl A T M h) (hF : F_42 T a0 a1 M = some z) : kRun G (d + 1) 42 [.int a0, .int a1] h 0 0 (kPI A T z) := by
  refine ⟨⟨rfl, Nat.le_of_ble_eq_true rfl⟩, ?_⟩
  show kWP _ _ (kRun G (d + 0)) _ 0 [some (.int a0), some (.int a1)] [] _ _ _
  have K : (fun z : (Int32 × kM) => ∀ h1, kRl A T z.2 h1 → kPI A T z (.inl (some (.int z.1))) h1) z := fun _ q => ⟨rfl, q⟩
  unfold F_42 at hF
  refine k_iload_n (pc := 0) i_42_0 rfl ?_
  refine k_if_lt (pc := 1) (tgt := 13) i_42_1 (by decide) (fun c1 => ?_) (fun c1 => ?_)
  · rw [if_pos c1] at hF
    refine k_iconst (pc := 13) (v := 0) i_42_13 (by decide) ?_
    obtain rfl := Option.some.inj hF
    exact k_ireturn (pc := 14) i_42_14 rfl rfl (K _ R)
  · rw [if_neg c1] at hF
    refine k_iload_n (pc := 4) i_42_4 rfl ?_
    refine k_iload_n (pc := 5) i_42_5 rfl ?_
    refine k_icmp_ge (pc := 6) (tgt := 13) i_42_6 (by decide) (fun c2 => ?_) (fun c2 => ?_)
    · rw [if_pos c2] at hF
      refine k_iconst (pc := 13) (v := 0) i_42_13 (by decide) ?_
      obtain rfl := Option.some.inj hF
      exact k_ireturn (pc := 14) i_42_14 rfl rfl (K _ R)
    · rw [if_neg c2] at hF
      refine k_iconst (pc := 9) (v := 1) i_42_9 (by decide) ?_
      refine k_goto (pc := 10) (tgt := 14) i_42_10 (by decide) ?_
      obtain rfl := Option.some.inj hF
      exact k_ireturn (pc := 14) i_42_14 rfl rfl (K _ R)
-- 43: RD$Reader picksWithin
noncomputable def B_43_2 (T : kT) (a0 : Option Nat) (a1 : Int32) (a2 : Int32) (M : kM) : Option ((Int32 × kM) ⊕ (Int32 × kM)) :=
  kOpt a0 none (fun j1 => kGd (kLv T (lTm j1)) (if (gp M (lTm j1) 4) ≤ a2 then (some (.inr ((1, M)))) else (if 8 ≤ a2 then (some (.inr ((1, M)))) else (kGx a2 8 (kBd (F_42 T (gp M (lPk j1) a2.toNatClampNeg) a1 M) (fun r6 M7 => if r6 = 0 then (some (.inr ((0, M7)))) else (some (.inl ((a2 + 1), M7)))))))))
noncomputable def F_43_2 (T : kT) (a0 : Option Nat) (a1 : Int32) (a2 : Int32) (M : kM) : Option (Int32 × kM) :=
  kWh (fun w : (Int32 × kM) => B_43_2 T a0 a1 w.1 w.2) (a2, M)
theorem F_43_2_eq (T : kT) (a0 : Option Nat) (a1 : Int32) (a2 : Int32) (M : kM) : F_43_2 T a0 a1 a2 M = kAg (B_43_2 T a0 a1 a2 M) (fun w => F_43_2 T a0 a1 w.1 w.2) := by
  unfold F_43_2
  rw [kWh_eq]
set_option maxHeartbeats 1000000 in
theorem W_43_2 {G : kG} {d : Nat} {A : kLb → Nat} {C : kCl} {P : kO → kH → Prop} {T : kT} {M : kM} {h : kH} {a0 : Option Nat} {a1 : Int32} {a2 : Int32} {z : (Int32 × kM)} (hC : C = kRun G (d + 1)) (R : kRl A T M h) (K : (fun z : (Int32 × kM) => ∀ h1, kRl A T z.2 h1 → P (.inl (some (.int z.1))) h1) z) (hF : F_43_2 T a0 a1 a2 M = some z) : kWP G 43 C P 2 [some (rTm A a0), some (.int a1), some (.int a2)] [] h 0 0 := by
  refine kWh_ind (P := (fun w : (Int32 × kM) => ∀ (h : kH), kRl A T w.2 h → kWP G 43 C P 2 [some (rTm A a0), some (.int a1), some (.int w.1)] [] h 0 0)) (Q := (fun z : (Int32 × kM) => ∀ h1, kRl A T z.2 h1 → P (.inl (some (.int z.1))) h1)) hF K ?_ h R
  clear hF K R
  intro w z hF K h R
  obtain ⟨a2, M⟩ := w
  change B_43_2 T a0 a1 a2 M = some z at hF
  change kWP G 43 C P 2 [some (rTm A a0), some (.int a1), some (.int a2)] [] h 0 0
  unfold B_43_2 at hF
  refine k_iload_n (pc := 2) i_43_2 rfl ?_
  refine k_aload_n (pc := 3) i_43_3 rfl (rf_is _) ?_
  obtain ⟨j1, rfl, hG⟩ := kOpt_el1 hF
  replace hF := hG
  clear hG
  obtain ⟨g2, hF⟩ := kGd_el hF
  refine k_getf (pc := 4) i_43_4 f_2_108 (rd_Tm (i := j1) R g2) rfl ?_
  refine k_icmp_ge (pc := 7) (tgt := 37) i_43_7 (by decide) (fun c3 => ?_) (fun c3 => ?_)
  · rw [if_pos c3] at hF
    refine k_iconst (pc := 37) (v := 1) i_43_37 (by decide) ?_
    obtain rfl := Option.some.inj hF
    exact k_ireturn (pc := 38) i_43_38 rfl rfl (K _ R)
  · rw [if_neg c3] at hF
    refine k_iload_n (pc := 10) i_43_10 rfl ?_
    refine k_bipush (pc := 11) (v := 8) i_43_11 (by decide) ?_
    refine k_icmp_ge (pc := 13) (tgt := 37) i_43_13 (by decide) (fun c4 => ?_) (fun c4 => ?_)
    · rw [if_pos c4] at hF
      refine k_iconst (pc := 37) (v := 1) i_43_37 (by decide) ?_
      obtain rfl := Option.some.inj hF
      exact k_ireturn (pc := 38) i_43_38 rfl rfl (K _ R)
    · rw [if_neg c4] at hF
      refine k_aload_n (pc := 16) i_43_16 rfl rfl ?_
      refine k_getf (pc := 17) i_43_17 f_2_111 (rd_Tm (i := j1) R g2) rfl ?_
      refine k_iload_n (pc := 20) i_43_20 rfl ?_
      obtain ⟨g5, hF⟩ := kGx_el hF
      refine k_iald (pc := 21) i_43_21 (rd_Pk (i := j1) R g2) g5 ?_
      refine k_iload_n (pc := 22) i_43_22 rfl ?_
      obtain ⟨r6, M7, q8, hF⟩ := kBd_el hF
      refine kcs_I (pc := 23) (As := [.int (gp M (lPk j1) a2.toNatClampNeg), .int a1]) (st := []) (A := A) (T := T) (r := r6) (M1 := M7) i_43_23 m_2_125 rfl rfl rfl (Nat.le_of_ble_eq_true rfl) (hC ▸ D_42 R q8) (fun h R => ?_)
      refine k_if_ne (pc := 26) (tgt := 31) i_43_26 (by decide) (fun c9 => ?_) (fun c9 => ?_)
      · rw [if_neg c9] at hF
        refine k_iinc (pc := 31) (v := a2 + 1) (lo2 := [some (.ref (A (lTm j1))), some (.int a1), some (.int (a2 + 1))]) i_43_31 rfl rfl rfl ?_
        refine k_goto (pc := 34) (tgt := 2) i_43_34 (by decide) ?_
        obtain rfl := Option.some.inj hF
        exact K _ R
      · rw [if_pos c9] at hF
        refine k_iconst (pc := 29) (v := 0) i_43_29 (by decide) ?_
        obtain rfl := Option.some.inj hF
        exact k_ireturn (pc := 30) i_43_30 rfl rfl (K _ R)
noncomputable def F_43 (T : kT) (a0 : Option Nat) (a1 : Int32) (M : kM) : Option (Int32 × kM) :=
  F_43_2 T a0 a1 0 M
set_option maxHeartbeats 1000000 in
theorem D_43 {G : kG} {d : Nat} {A : kLb → Nat} {T : kT} {M : kM} {h : kH} {a0 : Option Nat} {a1 : Int32} {z : (Int32 × kM)} (R : kRl A T M h) (hF : F_43 T a0 a1 M = some z) : kRun G (d + 2) 43 [rTm A a0, .int a1] h 0 0 (kPI A T z) := by
  refine ⟨⟨by cases a0 <;> rfl, Nat.le_of_ble_eq_true rfl⟩, ?_⟩
  show kWP _ _ (kRun G (d + 1)) _ 0 [some (rTm A a0), some (.int a1), none] [] _ _ _
  have K : (fun z : (Int32 × kM) => ∀ h1, kRl A T z.2 h1 → kPI A T z (.inl (some (.int z.1))) h1) z := fun _ q => ⟨rfl, q⟩
  unfold F_43 at hF
  refine k_iconst (pc := 0) (v := 0) i_43_0 (by decide) ?_
  refine k_istore_n (pc := 1) (lo2 := [some (rTm A a0), some (.int a1), some (.int 0)]) i_43_1 (Nat.le_of_ble_eq_true rfl) rfl ?_
  exact W_43_2 (d := d) rfl R K hF
-- 41: RD$Reader widthAsked
noncomputable def F_41 (T : kT) (a0 : Option Nat) (M : kM) : Option (Int32 × kM) :=
  kOpt a0 none (fun j1 => kGd (kLv T (lTm j1)) (kBd (F_18 T (gq M (lTm j1) 7) M) (fun r3 M4 => kBd (F_18 T (gq M4 (lTm j1) 8) M4) (fun r6 M7 => if (gp M7 (lTm j1) 0) = 0 then (kOpt (gq M7 (lTm j1) 6) (some (0, M7)) (fun j10 => kGd (kLv T (lTb j10)) (some (gp M7 (lTb j10) 0, M7)))) else (if (gp M7 (lTm j1) 0) = 1 then (kBd (F_42 T (gp M7 (lTm j1) 1) r3 M7) (fun r14 M15 => if r14 = 0 then (some (0, M15)) else (some (r3, M15)))) else (if (gp M7 (lTm j1) 0) = 2 then (kBd (F_43 T (some j1) r3 M7) (fun r19 M20 => if r19 = 0 then (some (0, M20)) else (some (gp M20 (lTm j1) 4, M20)))) else (if (gp M7 (lTm j1) 0) = 3 then (some (r3 + r6, M7)) else (if (gp M7 (lTm j1) 0) = 4 then (kBd (F_42 T (gp M7 (lTm j1) 1) r3 M7) (fun r25 M26 => if r25 = 0 then (some (0, M26)) else (kBd (F_42 T (gp M26 (lTm j1) 2) r6 M26) (fun r29 M30 => if r29 = 0 then (some (0, M30)) else (some (r3 + r6, M30)))))) else (if (gp M7 (lTm j1) 0) = 5 then (if r3 = r6 then (some (r3, M7)) else (some (0, M7))) else (if (gp M7 (lTm j1) 0) = 6 then (some (r3, M7)) else (if (gp M7 (lTm j1) 0) = 7 then (kBd (F_42 T (gp M7 (lTm j1) 1) r3 M7) (fun r37 M38 => if r37 = 0 then (some (0, M38)) else (some (r3, M38)))) else (if (gp M7 (lTm j1) 0) = 8 then (some (r3, M7)) else (if (gp M7 (lTm j1) 0) = 9 then (some (1, M7)) else (if (gp M7 (lTm j1) 0) = 10 then (kBd (F_42 T (gp M7 (lTm j1) 1) r3 M7) (fun r44 M45 => if r44 = 0 then (some (0, M45)) else (kBd (F_42 T (gp M45 (lTm j1) 2) r3 M45) (fun r48 M49 => if r48 = 0 then (some (0, M49)) else (some (2, M49)))))) else (some (r3, M7))))))))))))))))
set_option maxHeartbeats 1000000 in
theorem D_41 {G : kG} {d : Nat} {A : kLb → Nat} {T : kT} {M : kM} {h : kH} {a0 : Option Nat} {z : (Int32 × kM)} (R : kRl A T M h) (hF : F_41 T a0 M = some z) : kRun G (d + 3) 41 [rTm A a0] h 0 0 (kPI A T z) := by
  refine ⟨⟨by cases a0 <;> rfl, Nat.le_of_ble_eq_true rfl⟩, ?_⟩
  show kWP _ _ (kRun G (d + 2)) _ 0 [some (rTm A a0), none, none] [] _ _ _
  have K : (fun z : (Int32 × kM) => ∀ h1, kRl A T z.2 h1 → kPI A T z (.inl (some (.int z.1))) h1) z := fun _ q => ⟨rfl, q⟩
  unfold F_41 at hF
  refine k_aload_n (pc := 0) i_41_0 rfl (rf_is _) ?_
  obtain ⟨j1, rfl, hG⟩ := kOpt_el1 hF
  replace hF := hG
  clear hG
  obtain ⟨g2, hF⟩ := kGd_el hF
  refine k_getf (pc := 1) i_41_1 f_2_73 (rd_Tm (i := j1) R g2) rfl ?_
  obtain ⟨r3, M4, q5, hF⟩ := kBd_el hF
  refine kcs_I (pc := 4) (As := [rTm A (gq M (lTm j1) 7)]) (st := []) (A := A) (T := T) (r := r3) (M1 := M4) i_41_4 m_2_117 rfl rfl rfl (Nat.le_of_ble_eq_true rfl) (D_18 R q5) (fun h R => ?_)
  refine k_istore_n (pc := 7) (lo2 := [some (.ref (A (lTm j1))), some (.int r3), none]) i_41_7 (Nat.le_of_ble_eq_true rfl) rfl ?_
  refine k_aload_n (pc := 8) i_41_8 rfl rfl ?_
  refine k_getf (pc := 9) i_41_9 f_2_77 (rd_Tm (i := j1) R g2) rfl ?_
  obtain ⟨r6, M7, q8, hF⟩ := kBd_el hF
  refine kcs_I (pc := 12) (As := [rTm A (gq M4 (lTm j1) 8)]) (st := []) (A := A) (T := T) (r := r6) (M1 := M7) i_41_12 m_2_117 rfl rfl rfl (Nat.le_of_ble_eq_true rfl) (D_18 R q8) (fun h R => ?_)
  refine k_istore_n (pc := 15) (lo2 := [some (.ref (A (lTm j1))), some (.int r3), some (.int r6)]) i_41_15 (Nat.le_of_ble_eq_true rfl) rfl ?_
  refine k_aload_n (pc := 16) i_41_16 rfl rfl ?_
  refine k_getf (pc := 17) i_41_17 f_2_66 (rd_Tm (i := j1) R g2) rfl ?_
  by_cases c9 : (gp M7 (lTm j1) 0) = 0
  · rw [if_pos c9] at hF
    rw [c9]
    refine k_tswIn (pc := 20) (tgt := 80) i_41_20 (by decide) (by decide) rfl (by decide) ?_
    refine k_aload_n (pc := 80) i_41_80 rfl rfl ?_
    refine k_getf (pc := 81) i_41_81 f_2_98 (rd_Tm (i := j1) R g2) rfl ?_
    rcases kOpt_el hF with ⟨e11, hF⟩ | ⟨j10, e11, hF⟩
    · rw [e11]
      refine k_nonnullN (pc := 84) i_41_84 ?_
      refine k_iconst (pc := 87) (v := 0) i_41_87 (by decide) ?_
      refine k_goto (pc := 88) (tgt := 98) i_41_88 (by decide) ?_
      obtain rfl := Option.some.inj hF
      exact k_ireturn (pc := 98) i_41_98 rfl rfl (K _ R)
    · rw [e11]
      refine k_nonnull (pc := 84) (tgt := 91) i_41_84 (by decide) ?_
      refine k_aload_n (pc := 91) i_41_91 rfl rfl ?_
      refine k_getf (pc := 92) i_41_92 f_2_98 (rd_Tm (i := j1) R g2) rfl ?_
      rw [e11]
      obtain ⟨g12, hF⟩ := kGd_el hF
      refine k_getf (pc := 95) i_41_95 f_2_120 (rd_Tb (i := j10) R g12) rfl ?_
      obtain rfl := Option.some.inj hF
      exact k_ireturn (pc := 98) i_41_98 rfl rfl (K _ R)
  rw [if_neg c9] at hF
  by_cases c13 : (gp M7 (lTm j1) 0) = 1
  · rw [if_pos c13] at hF
    rw [c13]
    refine k_tswIn (pc := 20) (tgt := 99) i_41_20 (by decide) (by decide) rfl (by decide) ?_
    refine k_aload_n (pc := 99) i_41_99 rfl rfl ?_
    refine k_getf (pc := 100) i_41_100 f_2_102 (rd_Tm (i := j1) R g2) rfl ?_
    refine k_iload_n (pc := 103) i_41_103 rfl ?_
    obtain ⟨r14, M15, q16, hF⟩ := kBd_el hF
    refine kcs_I (pc := 104) (As := [.int (gp M7 (lTm j1) 1), .int r3]) (st := []) (A := A) (T := T) (r := r14) (M1 := M15) i_41_104 m_2_125 rfl rfl rfl (Nat.le_of_ble_eq_true rfl) (D_42 R q16) (fun h R => ?_)
    refine k_if_eq (pc := 107) (tgt := 114) i_41_107 (by decide) (fun c17 => ?_) (fun c17 => ?_)
    · rw [if_pos c17] at hF
      refine k_iconst (pc := 114) (v := 0) i_41_114 (by decide) ?_
      obtain rfl := Option.some.inj hF
      exact k_ireturn (pc := 115) i_41_115 rfl rfl (K _ R)
    · rw [if_neg c17] at hF
      refine k_iload_n (pc := 110) i_41_110 rfl ?_
      refine k_goto (pc := 111) (tgt := 115) i_41_111 (by decide) ?_
      obtain rfl := Option.some.inj hF
      exact k_ireturn (pc := 115) i_41_115 rfl rfl (K _ R)
  rw [if_neg c13] at hF
  by_cases c18 : (gp M7 (lTm j1) 0) = 2
  · rw [if_pos c18] at hF
    rw [c18]
    refine k_tswIn (pc := 20) (tgt := 116) i_41_20 (by decide) (by decide) rfl (by decide) ?_
    refine k_aload_n (pc := 116) i_41_116 rfl rfl ?_
    refine k_iload_n (pc := 117) i_41_117 rfl ?_
    obtain ⟨r19, M20, q21, hF⟩ := kBd_el hF
    refine kcs_I (pc := 118) (As := [.ref (A (lTm j1)), .int r3]) (st := []) (A := A) (T := T) (r := r19) (M1 := M20) i_41_118 m_2_129 rfl rfl rfl (Nat.le_of_ble_eq_true rfl) (D_43 R q21) (fun h R => ?_)
    refine k_if_eq (pc := 121) (tgt := 131) i_41_121 (by decide) (fun c22 => ?_) (fun c22 => ?_)
    · rw [if_pos c22] at hF
      refine k_iconst (pc := 131) (v := 0) i_41_131 (by decide) ?_
      obtain rfl := Option.some.inj hF
      exact k_ireturn (pc := 132) i_41_132 rfl rfl (K _ R)
    · rw [if_neg c22] at hF
      refine k_aload_n (pc := 124) i_41_124 rfl rfl ?_
      refine k_getf (pc := 125) i_41_125 f_2_108 (rd_Tm (i := j1) R g2) rfl ?_
      refine k_goto (pc := 128) (tgt := 132) i_41_128 (by decide) ?_
      obtain rfl := Option.some.inj hF
      exact k_ireturn (pc := 132) i_41_132 rfl rfl (K _ R)
  rw [if_neg c18] at hF
  by_cases c23 : (gp M7 (lTm j1) 0) = 3
  · rw [if_pos c23] at hF
    rw [c23]
    refine k_tswIn (pc := 20) (tgt := 133) i_41_20 (by decide) (by decide) rfl (by decide) ?_
    refine k_iload_n (pc := 133) i_41_133 rfl ?_
    refine k_iload_n (pc := 134) i_41_134 rfl ?_
    refine k_iadd (pc := 135) i_41_135 ?_
    obtain rfl := Option.some.inj hF
    exact k_ireturn (pc := 136) i_41_136 rfl rfl (K _ R)
  rw [if_neg c23] at hF
  by_cases c24 : (gp M7 (lTm j1) 0) = 4
  · rw [if_pos c24] at hF
    rw [c24]
    refine k_tswIn (pc := 20) (tgt := 137) i_41_20 (by decide) (by decide) rfl (by decide) ?_
    refine k_aload_n (pc := 137) i_41_137 rfl rfl ?_
    refine k_getf (pc := 138) i_41_138 f_2_102 (rd_Tm (i := j1) R g2) rfl ?_
    refine k_iload_n (pc := 141) i_41_141 rfl ?_
    obtain ⟨r25, M26, q27, hF⟩ := kBd_el hF
    refine kcs_I (pc := 142) (As := [.int (gp M7 (lTm j1) 1), .int r3]) (st := []) (A := A) (T := T) (r := r25) (M1 := M26) i_41_142 m_2_125 rfl rfl rfl (Nat.le_of_ble_eq_true rfl) (D_42 R q27) (fun h R => ?_)
    refine k_if_eq (pc := 145) (tgt := 165) i_41_145 (by decide) (fun c28 => ?_) (fun c28 => ?_)
    · rw [if_pos c28] at hF
      refine k_iconst (pc := 165) (v := 0) i_41_165 (by decide) ?_
      obtain rfl := Option.some.inj hF
      exact k_ireturn (pc := 166) i_41_166 rfl rfl (K _ R)
    · rw [if_neg c28] at hF
      refine k_aload_n (pc := 148) i_41_148 rfl rfl ?_
      refine k_getf (pc := 149) i_41_149 f_2_114 (rd_Tm (i := j1) R g2) rfl ?_
      refine k_iload_n (pc := 152) i_41_152 rfl ?_
      obtain ⟨r29, M30, q31, hF⟩ := kBd_el hF
      refine kcs_I (pc := 153) (As := [.int (gp M26 (lTm j1) 2), .int r6]) (st := []) (A := A) (T := T) (r := r29) (M1 := M30) i_41_153 m_2_125 rfl rfl rfl (Nat.le_of_ble_eq_true rfl) (D_42 R q31) (fun h R => ?_)
      refine k_if_eq (pc := 156) (tgt := 165) i_41_156 (by decide) (fun c32 => ?_) (fun c32 => ?_)
      · rw [if_pos c32] at hF
        refine k_iconst (pc := 165) (v := 0) i_41_165 (by decide) ?_
        obtain rfl := Option.some.inj hF
        exact k_ireturn (pc := 166) i_41_166 rfl rfl (K _ R)
      · rw [if_neg c32] at hF
        refine k_iload_n (pc := 159) i_41_159 rfl ?_
        refine k_iload_n (pc := 160) i_41_160 rfl ?_
        refine k_iadd (pc := 161) i_41_161 ?_
        refine k_goto (pc := 162) (tgt := 166) i_41_162 (by decide) ?_
        obtain rfl := Option.some.inj hF
        exact k_ireturn (pc := 166) i_41_166 rfl rfl (K _ R)
  rw [if_neg c24] at hF
  by_cases c33 : (gp M7 (lTm j1) 0) = 5
  · rw [if_pos c33] at hF
    rw [c33]
    refine k_tswIn (pc := 20) (tgt := 167) i_41_20 (by decide) (by decide) rfl (by decide) ?_
    refine k_iload_n (pc := 167) i_41_167 rfl ?_
    refine k_iload_n (pc := 168) i_41_168 rfl ?_
    refine k_icmp_ne (pc := 169) (tgt := 176) i_41_169 (by decide) (fun c34 => ?_) (fun c34 => ?_)
    · rw [if_neg c34] at hF
      refine k_iconst (pc := 176) (v := 0) i_41_176 (by decide) ?_
      obtain rfl := Option.some.inj hF
      exact k_ireturn (pc := 177) i_41_177 rfl rfl (K _ R)
    · rw [if_pos c34] at hF
      refine k_iload_n (pc := 172) i_41_172 rfl ?_
      refine k_goto (pc := 173) (tgt := 177) i_41_173 (by decide) ?_
      obtain rfl := Option.some.inj hF
      exact k_ireturn (pc := 177) i_41_177 rfl rfl (K _ R)
  rw [if_neg c33] at hF
  by_cases c35 : (gp M7 (lTm j1) 0) = 6
  · rw [if_pos c35] at hF
    rw [c35]
    refine k_tswIn (pc := 20) (tgt := 208) i_41_20 (by decide) (by decide) rfl (by decide) ?_
    refine k_iload_n (pc := 208) i_41_208 rfl ?_
    obtain rfl := Option.some.inj hF
    exact k_ireturn (pc := 209) i_41_209 rfl rfl (K _ R)
  rw [if_neg c35] at hF
  by_cases c36 : (gp M7 (lTm j1) 0) = 7
  · rw [if_pos c36] at hF
    rw [c36]
    refine k_tswIn (pc := 20) (tgt := 99) i_41_20 (by decide) (by decide) rfl (by decide) ?_
    refine k_aload_n (pc := 99) i_41_99 rfl rfl ?_
    refine k_getf (pc := 100) i_41_100 f_2_102 (rd_Tm (i := j1) R g2) rfl ?_
    refine k_iload_n (pc := 103) i_41_103 rfl ?_
    obtain ⟨r37, M38, q39, hF⟩ := kBd_el hF
    refine kcs_I (pc := 104) (As := [.int (gp M7 (lTm j1) 1), .int r3]) (st := []) (A := A) (T := T) (r := r37) (M1 := M38) i_41_104 m_2_125 rfl rfl rfl (Nat.le_of_ble_eq_true rfl) (D_42 R q39) (fun h R => ?_)
    refine k_if_eq (pc := 107) (tgt := 114) i_41_107 (by decide) (fun c40 => ?_) (fun c40 => ?_)
    · rw [if_pos c40] at hF
      refine k_iconst (pc := 114) (v := 0) i_41_114 (by decide) ?_
      obtain rfl := Option.some.inj hF
      exact k_ireturn (pc := 115) i_41_115 rfl rfl (K _ R)
    · rw [if_neg c40] at hF
      refine k_iload_n (pc := 110) i_41_110 rfl ?_
      refine k_goto (pc := 111) (tgt := 115) i_41_111 (by decide) ?_
      obtain rfl := Option.some.inj hF
      exact k_ireturn (pc := 115) i_41_115 rfl rfl (K _ R)
  rw [if_neg c36] at hF
  by_cases c41 : (gp M7 (lTm j1) 0) = 8
  · rw [if_pos c41] at hF
    rw [c41]
    refine k_tswIn (pc := 20) (tgt := 208) i_41_20 (by decide) (by decide) rfl (by decide) ?_
    refine k_iload_n (pc := 208) i_41_208 rfl ?_
    obtain rfl := Option.some.inj hF
    exact k_ireturn (pc := 209) i_41_209 rfl rfl (K _ R)
  rw [if_neg c41] at hF
  by_cases c42 : (gp M7 (lTm j1) 0) = 9
  · rw [if_pos c42] at hF
    rw [c42]
    refine k_tswIn (pc := 20) (tgt := 178) i_41_20 (by decide) (by decide) rfl (by decide) ?_
    refine k_iconst (pc := 178) (v := 1) i_41_178 (by decide) ?_
    obtain rfl := Option.some.inj hF
    exact k_ireturn (pc := 179) i_41_179 rfl rfl (K _ R)
  rw [if_neg c42] at hF
  by_cases c43 : (gp M7 (lTm j1) 0) = 10
  · rw [if_pos c43] at hF
    rw [c43]
    refine k_tswIn (pc := 20) (tgt := 180) i_41_20 (by decide) (by decide) rfl (by decide) ?_
    refine k_aload_n (pc := 180) i_41_180 rfl rfl ?_
    refine k_getf (pc := 181) i_41_181 f_2_102 (rd_Tm (i := j1) R g2) rfl ?_
    refine k_iload_n (pc := 184) i_41_184 rfl ?_
    obtain ⟨r44, M45, q46, hF⟩ := kBd_el hF
    refine kcs_I (pc := 185) (As := [.int (gp M7 (lTm j1) 1), .int r3]) (st := []) (A := A) (T := T) (r := r44) (M1 := M45) i_41_185 m_2_125 rfl rfl rfl (Nat.le_of_ble_eq_true rfl) (D_42 R q46) (fun h R => ?_)
    refine k_if_eq (pc := 188) (tgt := 206) i_41_188 (by decide) (fun c47 => ?_) (fun c47 => ?_)
    · rw [if_pos c47] at hF
      refine k_iconst (pc := 206) (v := 0) i_41_206 (by decide) ?_
      obtain rfl := Option.some.inj hF
      exact k_ireturn (pc := 207) i_41_207 rfl rfl (K _ R)
    · rw [if_neg c47] at hF
      refine k_aload_n (pc := 191) i_41_191 rfl rfl ?_
      refine k_getf (pc := 192) i_41_192 f_2_114 (rd_Tm (i := j1) R g2) rfl ?_
      refine k_iload_n (pc := 195) i_41_195 rfl ?_
      obtain ⟨r48, M49, q50, hF⟩ := kBd_el hF
      refine kcs_I (pc := 196) (As := [.int (gp M45 (lTm j1) 2), .int r3]) (st := []) (A := A) (T := T) (r := r48) (M1 := M49) i_41_196 m_2_125 rfl rfl rfl (Nat.le_of_ble_eq_true rfl) (D_42 R q50) (fun h R => ?_)
      refine k_if_eq (pc := 199) (tgt := 206) i_41_199 (by decide) (fun c51 => ?_) (fun c51 => ?_)
      · rw [if_pos c51] at hF
        refine k_iconst (pc := 206) (v := 0) i_41_206 (by decide) ?_
        obtain rfl := Option.some.inj hF
        exact k_ireturn (pc := 207) i_41_207 rfl rfl (K _ R)
      · rw [if_neg c51] at hF
        refine k_iconst (pc := 202) (v := 2) i_41_202 (by decide) ?_
        refine k_goto (pc := 203) (tgt := 207) i_41_203 (by decide) ?_
        obtain rfl := Option.some.inj hF
        exact k_ireturn (pc := 207) i_41_207 rfl rfl (K _ R)
  rw [if_neg c43] at hF
  refine k_tswOut (pc := 20) (tgt := 208) i_41_20 (kSwOut (n := 11) (by decide) (fun k hk => match k, hk with | 0, _ => c9 | 1, _ => c13 | 2, _ => c18 | 3, _ => c23 | 4, _ => c24 | 5, _ => c33 | 6, _ => c35 | 7, _ => c36 | 8, _ => c41 | 9, _ => c42 | 10, _ => c43 | k + 11, hk => absurd hk (by omega))) (by decide) ?_
  refine k_iload_n (pc := 208) i_41_208 rfl ?_
  obtain rfl := Option.some.inj hF
  exact k_ireturn (pc := 209) i_41_209 rfl rfl (K _ R)
-- 44: RD$Reader chooseIndex
noncomputable def F_44 (T : kT) (a0 : Option Nat) (M : kM) : Option (Unit × kM) :=
  kOpt a0 none (fun j1 => kGd (kLv T (lTm j1)) (if (gp M (lTm j1) 0) = 1 then (if (gp M (lTm j1) 3) = 0 then (kOpt (gq M (lTm j1) 7) (some ((), M)) (fun j5 => kGd (kLv T (lTm j5)) (if (gp M (lTm j5) 0) = 0 then (kOpt (gq M (lTm j5) 6) (some ((), M)) (fun j9 => kGd (kLv T (lTb j9)) (kBd (F_71 T j9 (gp M (lTm j1) 1) M) (fun r12 M13 => if r12 = 0 then (some ((), M13)) else (kGx (gp M13 (lTm j1) 1) 6 (if (gp M13 (lTx j9) (gp M13 (lTm j1) 1).toNatClampNeg) = 0 then (some ((), M13)) else (some ((), sq M13 (lTm j1) 6 (some j9))))))))) else (some ((), M))))) else (some ((), M))) else (some ((), M))))
set_option maxHeartbeats 1000000 in
theorem D_44 {G : kG} {d : Nat} {A : kLb → Nat} {T : kT} {M : kM} {h : kH} {a0 : Option Nat} {z : (Unit × kM)} (R : kRl A T M h) (hF : F_44 T a0 M = some z) : kRun G (d + 2) 44 [rTm A a0] h 0 0 (kPV A T z) := by
  refine ⟨⟨by cases a0 <;> rfl, Nat.le_of_ble_eq_true rfl⟩, ?_⟩
  show kWP _ _ (kRun G (d + 1)) _ 0 [some (rTm A a0), none, none] [] _ _ _
  have K : (fun z : (Unit × kM) => ∀ h1, kRl A T z.2 h1 → kPV A T z (.inl none) h1) z := fun _ q => ⟨rfl, q⟩
  unfold F_44 at hF
  refine k_aload_n (pc := 0) i_44_0 rfl (rf_is _) ?_
  obtain ⟨j1, rfl, hG⟩ := kOpt_el1 hF
  replace hF := hG
  clear hG
  obtain ⟨g2, hF⟩ := kGd_el hF
  refine k_getf (pc := 1) i_44_1 f_2_73 (rd_Tm (i := j1) R g2) rfl ?_
  refine k_astore_n (pc := 4) (lo2 := [some (.ref (A (lTm j1))), some (rTm A (gq M (lTm j1) 7)), none]) i_44_4 (Nat.le_of_ble_eq_true rfl) (rf_is _) rfl ?_
  refine k_aload_n (pc := 5) i_44_5 rfl rfl ?_
  refine k_getf (pc := 6) i_44_6 f_2_66 (rd_Tm (i := j1) R g2) rfl ?_
  refine k_iconst (pc := 9) (v := 1) i_44_9 (by decide) ?_
  refine k_icmp_ne (pc := 10) (tgt := 31) i_44_10 (by decide) (fun c3 => ?_) (fun c3 => ?_)
  · rw [if_neg c3] at hF
    obtain rfl := Option.some.inj hF
    exact k_return (pc := 31) i_44_31 rfl (K _ R)
  · rw [if_pos c3] at hF
    refine k_aload_n (pc := 13) i_44_13 rfl rfl ?_
    refine k_getf (pc := 14) i_44_14 f_2_105 (rd_Tm (i := j1) R g2) rfl ?_
    refine k_if_ne (pc := 17) (tgt := 31) i_44_17 (by decide) (fun c4 => ?_) (fun c4 => ?_)
    · rw [if_neg c4] at hF
      obtain rfl := Option.some.inj hF
      exact k_return (pc := 31) i_44_31 rfl (K _ R)
    · rw [if_pos c4] at hF
      refine k_aload_n (pc := 20) i_44_20 rfl (rf_is _) ?_
      rcases kOpt_el hF with ⟨e6, hF⟩ | ⟨j5, e6, hF⟩
      · rw [e6]
        refine k_isnullN (pc := 21) (tgt := 31) i_44_21 (by decide) ?_
        obtain rfl := Option.some.inj hF
        exact k_return (pc := 31) i_44_31 rfl (K _ R)
      · rw [e6]
        refine k_isnull (pc := 21) i_44_21 ?_
        refine k_aload_n (pc := 24) i_44_24 rfl rfl ?_
        obtain ⟨g7, hF⟩ := kGd_el hF
        refine k_getf (pc := 25) i_44_25 f_2_66 (rd_Tm (i := j5) R g7) rfl ?_
        refine k_if_eq (pc := 28) (tgt := 32) i_44_28 (by decide) (fun c8 => ?_) (fun c8 => ?_)
        · rw [if_pos c8] at hF
          refine k_aload_n (pc := 32) i_44_32 rfl rfl ?_
          refine k_getf (pc := 33) i_44_33 f_2_98 (rd_Tm (i := j5) R g7) rfl ?_
          refine k_astore_n (pc := 36) (lo2 := [some (.ref (A (lTm j1))), some (.ref (A (lTm j5))), some (rTb A (gq M (lTm j5) 6))]) i_44_36 (Nat.le_of_ble_eq_true rfl) (rf_is _) rfl ?_
          refine k_aload_n (pc := 37) i_44_37 rfl (rf_is _) ?_
          rcases kOpt_el hF with ⟨e10, hF⟩ | ⟨j9, e10, hF⟩
          · rw [e10]
            refine k_isnullN (pc := 38) (tgt := 69) i_44_38 (by decide) ?_
            obtain rfl := Option.some.inj hF
            exact k_return (pc := 69) i_44_69 rfl (K _ R)
          · rw [e10]
            refine k_isnull (pc := 38) i_44_38 ?_
            refine k_aload_n (pc := 41) i_44_41 rfl rfl ?_
            refine k_aload_n (pc := 42) i_44_42 rfl rfl ?_
            refine k_getf (pc := 43) i_44_43 f_2_102 (rd_Tm (i := j1) R g2) rfl ?_
            obtain ⟨g11, hF⟩ := kGd_el hF
            obtain ⟨r12, M13, q14, hF⟩ := kBd_el hF
            refine kcv_I (pc := 46) (As := [.ref (A (lTb j9)), .int (gp M (lTm j1) 1)]) (st := []) (A := A) (T := T) (r := r12) (M1 := M13) i_44_46 m_2_133 rfl rfl rfl rfl (rd_Tb (i := j9) R g11) rfl (Nat.le_of_ble_eq_true rfl) (D_71 R q14) (fun h R => ?_)
            refine k_if_eq (pc := 49) (tgt := 69) i_44_49 (by decide) (fun c15 => ?_) (fun c15 => ?_)
            · rw [if_pos c15] at hF
              obtain rfl := Option.some.inj hF
              exact k_return (pc := 69) i_44_69 rfl (K _ R)
            · rw [if_neg c15] at hF
              refine k_aload_n (pc := 52) i_44_52 rfl rfl ?_
              refine k_getf (pc := 53) i_44_53 f_2_137 (rd_Tb (i := j9) R g11) rfl ?_
              refine k_aload_n (pc := 56) i_44_56 rfl rfl ?_
              refine k_getf (pc := 57) i_44_57 f_2_102 (rd_Tm (i := j1) R g2) rfl ?_
              obtain ⟨g16, hF⟩ := kGx_el hF
              refine k_zald (pc := 60) i_44_60 (rd_Tx (i := j9) R g11) g16 ?_
              refine k_if_eq (pc := 61) (tgt := 69) i_44_61 (by decide) (fun c17 => ?_) (fun c17 => ?_)
              · rw [if_pos c17] at hF
                obtain rfl := Option.some.inj hF
                exact k_return (pc := 69) i_44_69 rfl (K _ R)
              · rw [if_neg c17] at hF
                refine k_aload_n (pc := 64) i_44_64 rfl rfl ?_
                refine k_aload_n (pc := 65) i_44_65 rfl rfl ?_
                refine k_putf (pc := 66) i_44_66 f_2_98 (rd_Tm (i := j1) R g2) (by decide +kernel) (Nat.le_of_ble_eq_true rfl) rfl rfl rfl (fun h e18 => ?_)
                replace R := kRl_sq (l := (lTm j1)) (k := 6) (v := (some j9)) R g2 e18
                clear e18
                obtain rfl := Option.some.inj hF
                exact k_return (pc := 69) i_44_69 rfl (K _ R)
        · rw [if_neg c8] at hF
          obtain rfl := Option.some.inj hF
          exact k_return (pc := 31) i_44_31 rfl (K _ R)
