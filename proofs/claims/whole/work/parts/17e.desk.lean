-- 17: RD keepLastRow
noncomputable def F_17 (T : kT) (a1 : Option Nat) (M : kM) : Option (Unit × kM) :=
  kOpt a1 none (fun j1 => kGd (kLv T (lTm j1)) (kGd (kCk 0 0 (gp (sp M lD 5 (gp M (lTm j1) 9)) lD 5) 12 12) (some ((), sa (sp M lD 5 (gp M (lTm j1) 9)) lLa (va_cpy (gp (sp M lD 5 (gp M (lTm j1) 9)) (lRw j1)) (gp (sp M lD 5 (gp M (lTm j1) 9)) lLa) (0 : Int32).toNatClampNeg (0 : Int32).toNatClampNeg (gp (sp M lD 5 (gp M (lTm j1) 9)) lD 5).toNatClampNeg)))))
set_option maxHeartbeats 1000000 in
theorem D_17 {G : kG} {d : Nat} {A : kLb → Nat} {T : kT} {M : kM} {h : kH} {a1 : Option Nat} {z : (Unit × kM)} (R : kRl A T M h) (hF : F_17 T a1 M = some z) : kRun G (d + 1) 17 [.ref (A lD), rTm A a1] h 0 0 (kPV A T z) := by
  refine ⟨⟨by cases a1 <;> rfl, Nat.le_of_ble_eq_true rfl⟩, ?_⟩
  show kWP _ _ (kRun G (d + 0)) _ 0 [some (.ref (A lD)), some (rTm A a1)] [] _ _ _
  have K : (fun z : (Unit × kM) => ∀ h1, kRl A T z.2 h1 → kPV A T z (.inl none) h1) z := fun _ q => ⟨rfl, q⟩
  unfold F_17 at hF
  refine k_aload_n (pc := 0) i_17_0 rfl rfl ?_
  refine k_aload_n (pc := 1) i_17_1 rfl (rf_is _) ?_
  obtain ⟨j1, rfl, hG⟩ := kOpt_el1 hF
  replace hF := hG
  clear hG
  obtain ⟨g2, hF⟩ := kGd_el hF
  refine k_getf (pc := 2) i_17_2 f_0_166 (rd_Tm (i := j1) R g2) rfl ?_
  refine k_putf (pc := 5) i_17_5 f_0_37 (rd_D R) (by decide +kernel) (Nat.le_of_ble_eq_true rfl) rfl rfl rfl (fun h e3 => ?_)
  replace R := kRl_sp (l := lD) (k := 5) (v := gp M (lTm j1) 9) R rfl e3
  clear e3
  refine k_aload_n (pc := 8) i_17_8 rfl rfl ?_
  refine k_getf (pc := 9) i_17_9 f_0_188 (rd_Tm (i := j1) R g2) rfl ?_
  refine k_iconst (pc := 12) (v := 0) i_17_12 (by decide) ?_
  refine k_aload_n (pc := 13) i_17_13 rfl rfl ?_
  refine k_getf (pc := 14) i_17_14 f_0_34 (rd_D R) rfl ?_
  refine k_iconst (pc := 17) (v := 0) i_17_17 (by decide) ?_
  refine k_aload_n (pc := 18) i_17_18 rfl rfl ?_
  refine k_getf (pc := 19) i_17_19 f_0_37 (rd_D R) rfl ?_
  obtain ⟨g4, hF⟩ := kGd_el hF
  obtain ⟨g41, g42, g43, g44, g45⟩ := kCk_el g4
  refine k_copyi (pc := 22) i_17_22 x_0_191 (rd_Rw (i := j1) R g2) (rd_La R) g41 g42 g43 g44 g45 (Nat.le_of_ble_eq_true rfl) (fun h e5 => ?_)
  replace R := kRl_sa (l := lLa) (f := va_cpy (gp (sp M lD 5 (gp M (lTm j1) 9)) (lRw j1)) (gp (sp M lD 5 (gp M (lTm j1) 9)) lLa) (0 : Int32).toNatClampNeg (0 : Int32).toNatClampNeg (gp (sp M lD 5 (gp M (lTm j1) 9)) lD 5).toNatClampNeg) R rfl e5
  clear e5
  obtain rfl := Option.some.inj hF
  exact k_return (pc := 25) i_17_25 rfl (K _ R)
-- 157: java/lang/Math floorDiv
noncomputable def F_157 (T : kT) (a0 : Int32) (a1 : Int32) (M : kM) : Option (Int32 × kM) :=
  kGd (!(a1 == 0)) (if 0 ≤ (a0 ^^^ a1) then (some (a0 / a1, M)) else (if ((a0 / a1) * a1) = a0 then (some (a0 / a1, M)) else (some ((a0 / a1) - 1, M))))
set_option maxHeartbeats 1000000 in
theorem D_157 {G : kG} {d : Nat} {A : kLb → Nat} {T : kT} {M : kM} {h : kH} {a0 : Int32} {a1 : Int32} {z : (Int32 × kM)} (R : kRl A T M h) (hF : F_157 T a0 a1 M = some z) : kRun G (d + 1) 157 [.int a0, .int a1] h 0 0 (kPI A T z) := by
  refine ⟨⟨rfl, Nat.le_of_ble_eq_true rfl⟩, ?_⟩
  show kWP _ _ (kRun G (d + 0)) _ 0 [some (.int a0), some (.int a1), none] [] _ _ _
  have K : (fun z : (Int32 × kM) => ∀ h1, kRl A T z.2 h1 → kPI A T z (.inl (some (.int z.1))) h1) z := fun _ q => ⟨rfl, q⟩
  unfold F_157 at hF
  refine k_iload_n (pc := 0) i_157_0 rfl ?_
  refine k_iload_n (pc := 1) i_157_1 rfl ?_
  obtain ⟨g1, hF⟩ := kGd_el hF
  refine k_idiv (pc := 2) i_157_2 (by simpa using g1) ?_
  refine k_istore_n (pc := 3) (lo2 := [some (.int a0), some (.int a1), some (.int (a0 / a1))]) i_157_3 (Nat.le_of_ble_eq_true rfl) rfl ?_
  refine k_iload_n (pc := 4) i_157_4 rfl ?_
  refine k_iload_n (pc := 5) i_157_5 rfl ?_
  refine k_ixor (pc := 6) i_157_6 ?_
  refine k_if_ge (pc := 7) (tgt := 21) i_157_7 (by decide) (fun c2 => ?_) (fun c2 => ?_)
  · rw [if_pos c2] at hF
    refine k_iload_n (pc := 21) i_157_21 rfl ?_
    obtain rfl := Option.some.inj hF
    exact k_ireturn (pc := 22) i_157_22 rfl rfl (K _ R)
  · rw [if_neg c2] at hF
    refine k_iload_n (pc := 10) i_157_10 rfl ?_
    refine k_iload_n (pc := 11) i_157_11 rfl ?_
    refine k_imul (pc := 12) i_157_12 ?_
    refine k_iload_n (pc := 13) i_157_13 rfl ?_
    refine k_icmp_eq (pc := 14) (tgt := 21) i_157_14 (by decide) (fun c3 => ?_) (fun c3 => ?_)
    · rw [if_pos c3] at hF
      refine k_iload_n (pc := 21) i_157_21 rfl ?_
      obtain rfl := Option.some.inj hF
      exact k_ireturn (pc := 22) i_157_22 rfl rfl (K _ R)
    · rw [if_neg c3] at hF
      refine k_iload_n (pc := 17) i_157_17 rfl ?_
      refine k_iconst (pc := 18) (v := 1) i_157_18 (by decide) ?_
      refine k_isub (pc := 19) i_157_19 ?_
      obtain rfl := Option.some.inj hF
      exact k_ireturn (pc := 20) i_157_20 rfl rfl (K _ R)
-- 158: java/lang/Math floorMod
noncomputable def F_158 (T : kT) (a0 : Int32) (a1 : Int32) (M : kM) : Option (Int32 × kM) :=
  kGd (!(a1 == 0)) (if 0 ≤ (a0 ^^^ a1) then (some (a0 - a0 / a1 * a1, M)) else (if (a0 - a0 / a1 * a1) = 0 then (some (a0 - a0 / a1 * a1, M)) else (some ((a0 - a0 / a1 * a1) + a1, M))))
set_option maxHeartbeats 1000000 in
theorem D_158 {G : kG} {d : Nat} {A : kLb → Nat} {T : kT} {M : kM} {h : kH} {a0 : Int32} {a1 : Int32} {z : (Int32 × kM)} (R : kRl A T M h) (hF : F_158 T a0 a1 M = some z) : kRun G (d + 1) 158 [.int a0, .int a1] h 0 0 (kPI A T z) := by
  refine ⟨⟨rfl, Nat.le_of_ble_eq_true rfl⟩, ?_⟩
  show kWP _ _ (kRun G (d + 0)) _ 0 [some (.int a0), some (.int a1), none] [] _ _ _
  have K : (fun z : (Int32 × kM) => ∀ h1, kRl A T z.2 h1 → kPI A T z (.inl (some (.int z.1))) h1) z := fun _ q => ⟨rfl, q⟩
  unfold F_158 at hF
  refine k_iload_n (pc := 0) i_158_0 rfl ?_
  refine k_iload_n (pc := 1) i_158_1 rfl ?_
  obtain ⟨g1, hF⟩ := kGd_el hF
  refine k_irem (pc := 2) i_158_2 (by simpa using g1) ?_
  refine k_istore_n (pc := 3) (lo2 := [some (.int a0), some (.int a1), some (.int (a0 - a0 / a1 * a1))]) i_158_3 (Nat.le_of_ble_eq_true rfl) rfl ?_
  refine k_iload_n (pc := 4) i_158_4 rfl ?_
  refine k_iload_n (pc := 5) i_158_5 rfl ?_
  refine k_ixor (pc := 6) i_158_6 ?_
  refine k_if_ge (pc := 7) (tgt := 18) i_158_7 (by decide) (fun c2 => ?_) (fun c2 => ?_)
  · rw [if_pos c2] at hF
    refine k_iload_n (pc := 18) i_158_18 rfl ?_
    obtain rfl := Option.some.inj hF
    exact k_ireturn (pc := 19) i_158_19 rfl rfl (K _ R)
  · rw [if_neg c2] at hF
    refine k_iload_n (pc := 10) i_158_10 rfl ?_
    refine k_if_eq (pc := 11) (tgt := 18) i_158_11 (by decide) (fun c3 => ?_) (fun c3 => ?_)
    · rw [if_pos c3] at hF
      refine k_iload_n (pc := 18) i_158_18 rfl ?_
      obtain rfl := Option.some.inj hF
      exact k_ireturn (pc := 19) i_158_19 rfl rfl (K _ R)
    · rw [if_neg c3] at hF
      refine k_iload_n (pc := 14) i_158_14 rfl ?_
      refine k_iload_n (pc := 15) i_158_15 rfl ?_
      refine k_iadd (pc := 16) i_158_16 ?_
      obtain rfl := Option.some.inj hF
      exact k_ireturn (pc := 17) i_158_17 rfl rfl (K _ R)
-- 2: RD index
noncomputable def F_2_21 (T : kT) (M : kM) : Option ((Nat ⊕ Unit) × kM) :=
  some (.inl 0, M)
set_option maxHeartbeats 1000000 in
theorem W_2_21 {G : kG} {d : Nat} {A : kLb → Nat} {C : kCl} {P : kO → kH → Prop} {T : kT} {M : kM} {h : kH} {b0 b1 b2 b3 : Option Value} {z : ((Nat ⊕ Unit) × kM)} {mc ms : Nat} (hmc : 1 ≤ mc) (hms : 6 ≤ ms) (hC : C = kRun G (d + 1)) (R : kRl A T M h) (K : (fun z : ((Nat ⊕ Unit) × kM) => ∀ h1, kRl A T z.2 h1 → P (Sum.elim (fun E => .inr E) (fun _ => .inl none) z.1) h1) z) (hF : F_2_21 T  M = some z) : kWP G 2 C P 21 [b0, b1, b2, b3] [] h mc ms := by
  unfold F_2_21 at hF
  obtain rfl := Option.some.inj hF
  exact k_throw (pc := 21) t_2_21 (by omega) (by omega) (Nat.le_of_ble_eq_true rfl) (K _ R)
noncomputable def F_2_50 (T : kT) (M : kM) : Option ((Nat ⊕ Unit) × kM) :=
  some (.inl 1, M)
set_option maxHeartbeats 1000000 in
theorem W_2_50 {G : kG} {d : Nat} {A : kLb → Nat} {C : kCl} {P : kO → kH → Prop} {T : kT} {M : kM} {h : kH} {b0 b1 b2 b3 : Option Value} {z : ((Nat ⊕ Unit) × kM)} {mc ms : Nat} (hmc : 1 ≤ mc) (hms : 6 ≤ ms) (hC : C = kRun G (d + 1)) (R : kRl A T M h) (K : (fun z : ((Nat ⊕ Unit) × kM) => ∀ h1, kRl A T z.2 h1 → P (Sum.elim (fun E => .inr E) (fun _ => .inl none) z.1) h1) z) (hF : F_2_50 T  M = some z) : kWP G 2 C P 50 [b0, b1, b2, b3] [] h mc ms := by
  unfold F_2_50 at hF
  obtain rfl := Option.some.inj hF
  exact k_throw (pc := 50) t_2_50 (by omega) (by omega) (Nat.le_of_ble_eq_true rfl) (K _ R)
noncomputable def F_2 (T : kT) (a1 : Int32) (a2 : Int32) (M : kM) : Option ((Nat ⊕ Unit) × kM) :=
  kBd (F_83 T a1 M) (fun r1 M2 => kOpt r1 (F_2_21 T  M2) (fun j4 => kGd (kLv T (lTb j4)) (kBd (F_71 T j4 a2 M2) (fun r7 M8 => if r7 = 0 then (F_2_21 T  M8) else (kGx a2 6 (if (gp M8 (lTx j4) a2.toNatClampNeg) = 0 then (if (gp M8 lTs 2) = 0 then (kGx a2 6 (some (.inr (()), sp (sq M8 lD 6 none) (lTx j4) a2.toNatClampNeg 1))) else (F_2_50 T  M8)) else (F_2_50 T  M8)))))))
set_option maxHeartbeats 1000000 in
theorem D_2 {G : kG} {d : Nat} {A : kLb → Nat} {T : kT} {M : kM} {h : kH} {a1 : Int32} {a2 : Int32} {z : ((Nat ⊕ Unit) × kM)} {mc ms : Nat} (hmc : 1 ≤ mc) (hms : 6 ≤ ms) (R : kRl A T M h) (hF : F_2 T a1 a2 M = some z) : kRun G (d + 2) 2 [.ref (A lD), .int a1, .int a2] h mc ms (kPTV A T z) := by
  refine ⟨⟨rfl, Nat.le_of_ble_eq_true rfl⟩, ?_⟩
  show kWP _ _ (kRun G (d + 1)) _ 0 [some (.ref (A lD)), some (.int a1), some (.int a2), none] [] _ _ _
  have K : (fun z : ((Nat ⊕ Unit) × kM) => ∀ h1, kRl A T z.2 h1 → kPTV A T z (Sum.elim (fun E => .inr E) (fun _ => .inl none) z.1) h1) z := fun _ q => ⟨rfl, q⟩
  unfold F_2 at hF
  refine k_aload_n (pc := 0) i_2_0 rfl rfl ?_
  refine k_getf (pc := 1) i_2_1 f_0_10 (rd_D R) rfl ?_
  refine k_iload_n (pc := 4) i_2_4 rfl ?_
  obtain ⟨r1, M2, q3, hF⟩ := kBd_el hF
  refine kcv_B (pc := 5) (As := [.ref (A lTs), .int a1]) (st := []) (A := A) (T := T) (r := r1) (M1 := M2) i_2_5 m_0_68 rfl rfl rfl rfl (rd_Ts R) rfl (Nat.le_of_ble_eq_true rfl) (D_83 R q3) (fun h R => ?_)
  refine k_astore_n (pc := 8) (lo2 := [some (.ref (A lD)), some (.int a1), some (.int a2), some (rTb A r1)]) i_2_8 (Nat.le_of_ble_eq_true rfl) (rf_is _) rfl ?_
  refine k_aload_n (pc := 9) i_2_9 rfl (rf_is _) ?_
  rcases kOpt_el hF with ⟨rfl, hG⟩ | ⟨j4, rfl, hG⟩
  · replace hF := hG
    clear hG
    refine k_isnullN (pc := 10) (tgt := 21) i_2_10 (by decide) ?_
    exact W_2_21 (d := d) hmc hms rfl R K hF
  · replace hF := hG
    clear hG
    refine k_isnull (pc := 10) i_2_10 ?_
    refine k_aload_n (pc := 13) i_2_13 rfl rfl ?_
    refine k_iload_n (pc := 14) i_2_14 rfl ?_
    obtain ⟨g6, hF⟩ := kGd_el hF
    obtain ⟨r7, M8, q9, hF⟩ := kBd_el hF
    refine kcv_I (pc := 15) (As := [.ref (A (lTb j4)), .int a2]) (st := []) (A := A) (T := T) (r := r7) (M1 := M8) i_2_15 m_0_72 rfl rfl rfl rfl (rd_Tb (i := j4) R g6) rfl (Nat.le_of_ble_eq_true rfl) (D_71 R q9) (fun h R => ?_)
    refine k_if_ne (pc := 18) (tgt := 31) i_2_18 (by decide) (fun c10 => ?_) (fun c10 => ?_)
    · rw [if_neg c10] at hF
      refine k_aload_n (pc := 31) i_2_31 rfl rfl ?_
      refine k_getf (pc := 32) i_2_32 f_0_80 (rd_Tb (i := j4) R g6) rfl ?_
      refine k_iload_n (pc := 35) i_2_35 rfl ?_
      obtain ⟨g11, hF⟩ := kGx_el hF
      refine k_zald (pc := 36) i_2_36 (rd_Tx (i := j4) R g6) g11 ?_
      refine k_if_ne (pc := 37) (tgt := 50) i_2_37 (by decide) (fun c12 => ?_) (fun c12 => ?_)
      · rw [if_neg c12] at hF
        exact W_2_50 (d := d) hmc hms rfl R K hF
      · rw [if_pos c12] at hF
        refine k_aload_n (pc := 40) i_2_40 rfl rfl ?_
        refine k_getf (pc := 41) i_2_41 f_0_10 (rd_D R) rfl ?_
        refine k_getf (pc := 44) i_2_44 f_0_55 (rd_Ts R) rfl ?_
        refine k_if_eq (pc := 47) (tgt := 60) i_2_47 (by decide) (fun c13 => ?_) (fun c13 => ?_)
        · rw [if_pos c13] at hF
          refine k_aload_n (pc := 60) i_2_60 rfl rfl ?_
          refine k_null (pc := 61) i_2_61 ?_
          refine k_putf (pc := 62) i_2_62 f_0_41 (rd_D R) (by decide +kernel) (Nat.le_of_ble_eq_true rfl) rfl rfl rfl (fun h e14 => ?_)
          replace R := kRl_sq (l := lD) (k := 6) (v := none) R rfl e14
          clear e14
          refine k_aload_n (pc := 65) i_2_65 rfl rfl ?_
          refine k_getf (pc := 66) i_2_66 f_0_80 (rd_Tb (i := j4) R g6) rfl ?_
          refine k_iload_n (pc := 69) i_2_69 rfl ?_
          refine k_iconst (pc := 70) (v := 1) i_2_70 (by decide) ?_
          obtain ⟨g15, hF⟩ := kGx_el hF
          refine k_zast (pc := 71) i_2_71 (rd_Tx (i := j4) R g6) g15 (fun h e16 => ?_)
          replace R := kRl_sp (l := (lTx j4)) (k := a2.toNatClampNeg) (v := 1) R g6 e16
          clear e16
          obtain rfl := Option.some.inj hF
          exact k_return (pc := 72) i_2_72 rfl (K _ R)
        · rw [if_neg c13] at hF
          exact W_2_50 (d := d) hmc hms rfl R K hF
    · rw [if_pos c10] at hF
      exact W_2_21 (d := d) hmc hms rfl R K hF
-- 3: RD stage
noncomputable def F_3_10 (T : kT) (M : kM) : Option ((Nat ⊕ Unit) × kM) :=
  some (.inl 0, M)
set_option maxHeartbeats 1000000 in
theorem W_3_10 {G : kG} {d : Nat} {A : kLb → Nat} {C : kCl} {P : kO → kH → Prop} {T : kT} {M : kM} {h : kH} {b0 b1 b2 : Option Value} {z : ((Nat ⊕ Unit) × kM)} {mc ms : Nat} (hmc : 1 ≤ mc) (hms : 6 ≤ ms) (hC : C = kRun G (d + 0)) (R : kRl A T M h) (K : (fun z : ((Nat ⊕ Unit) × kM) => ∀ h1, kRl A T z.2 h1 → P (Sum.elim (fun E => .inr E) (fun _ => .inl none) z.1) h1) z) (hF : F_3_10 T  M = some z) : kWP G 3 C P 10 [b0, b1, b2] [] h mc ms := by
  unfold F_3_10 at hF
  obtain rfl := Option.some.inj hF
  exact k_throw (pc := 10) t_3_10 (by omega) (by omega) (Nat.le_of_ble_eq_true rfl) (K _ R)
noncomputable def F_3 (T : kT) (a1 : Int32) (a2 : Int32) (M : kM) : Option ((Nat ⊕ Unit) × kM) :=
  if a1 < 0 then (F_3_10 T  M) else (if a1 < 6 then (kGx a1 6 (some (.inr (()), sp M lHa a1.toNatClampNeg a2))) else (F_3_10 T  M))
set_option maxHeartbeats 1000000 in
theorem D_3 {G : kG} {d : Nat} {A : kLb → Nat} {T : kT} {M : kM} {h : kH} {a1 : Int32} {a2 : Int32} {z : ((Nat ⊕ Unit) × kM)} {mc ms : Nat} (hmc : 1 ≤ mc) (hms : 6 ≤ ms) (R : kRl A T M h) (hF : F_3 T a1 a2 M = some z) : kRun G (d + 1) 3 [.ref (A lD), .int a1, .int a2] h mc ms (kPTV A T z) := by
  refine ⟨⟨rfl, Nat.le_of_ble_eq_true rfl⟩, ?_⟩
  show kWP _ _ (kRun G (d + 0)) _ 0 [some (.ref (A lD)), some (.int a1), some (.int a2)] [] _ _ _
  have K : (fun z : ((Nat ⊕ Unit) × kM) => ∀ h1, kRl A T z.2 h1 → kPTV A T z (Sum.elim (fun E => .inr E) (fun _ => .inl none) z.1) h1) z := fun _ q => ⟨rfl, q⟩
  unfold F_3 at hF
  refine k_iload_n (pc := 0) i_3_0 rfl ?_
  refine k_if_lt (pc := 1) (tgt := 10) i_3_1 (by decide) (fun c1 => ?_) (fun c1 => ?_)
  · rw [if_pos c1] at hF
    exact W_3_10 (d := d) hmc hms rfl R K hF
  · rw [if_neg c1] at hF
    refine k_iload_n (pc := 4) i_3_4 rfl ?_
    refine k_bipush (pc := 5) (v := 6) i_3_5 (by decide) ?_
    refine k_icmp_lt (pc := 7) (tgt := 20) i_3_7 (by decide) (fun c2 => ?_) (fun c2 => ?_)
    · rw [if_pos c2] at hF
      refine k_aload_n (pc := 20) i_3_20 rfl rfl ?_
      refine k_getf (pc := 21) i_3_21 f_0_16 (rd_D R) rfl ?_
      refine k_iload_n (pc := 24) i_3_24 rfl ?_
      refine k_iload_n (pc := 25) i_3_25 rfl ?_
      obtain ⟨g3, hF⟩ := kGx_el hF
      refine k_iast (pc := 26) i_3_26 (rd_Ha R) g3 (fun h e4 => ?_)
      replace R := kRl_sp (l := lHa) (k := a1.toNatClampNeg) (v := a2) R rfl e4
      clear e4
      obtain rfl := Option.some.inj hF
      exact k_return (pc := 27) i_3_27 rfl (K _ R)
    · rw [if_neg c2] at hF
      exact W_3_10 (d := d) hmc hms rfl R K hF
-- 4: RD insert
noncomputable def F_4_43 (T : kT) (M : kM) : Option ((Nat ⊕ Int32) × kM) :=
  some (.inl 1, M)
set_option maxHeartbeats 1000000 in
theorem W_4_43 {G : kG} {d : Nat} {A : kLb → Nat} {C : kCl} {P : kO → kH → Prop} {T : kT} {M : kM} {h : kH} {b0 b1 b2 : Option Value} {z : ((Nat ⊕ Int32) × kM)} {mc ms : Nat} (hmc : 1 ≤ mc) (hms : 6 ≤ ms) (hC : C = kRun G (d + 1)) (R : kRl A T M h) (K : (fun z : ((Nat ⊕ Int32) × kM) => ∀ h1, kRl A T z.2 h1 → P (Sum.elim (fun E => .inr E) (fun v => .inl (some (.int v))) z.1) h1) z) (hF : F_4_43 T  M = some z) : kWP G 4 C P 43 [b0, b1, b2] [] h mc ms := by
  unfold F_4_43 at hF
  obtain rfl := Option.some.inj hF
  exact k_throw (pc := 43) t_4_43 (by omega) (by omega) (Nat.le_of_ble_eq_true rfl) (K _ R)
noncomputable def F_4 (T : kT) (a1 : Int32) (M : kM) : Option ((Nat ⊕ Int32) × kM) :=
  kBd (F_83 T a1 M) (fun r1 M2 => kOpt r1 (some (.inl 0, M2)) (fun j4 => kGd (kLv T (lTb j4)) (if 40 ≤ (gp M2 (lTb j4) 4) then (F_4_43 T  M2) else (kBd (F_85 T 1 M2) (fun r8 M9 => if r8 = 0 then (F_4_43 T  M9) else (kBd (F_86 T 1 (sq M9 lD 6 none)) (fun r13 M14 => kBd (F_75 T j4 lHa M14) (fun r16 M17 => some (.inr (gp M17 (lTb j4) 4), M17)))))))))
set_option maxHeartbeats 1000000 in
theorem D_4 {G : kG} {d : Nat} {A : kLb → Nat} {T : kT} {M : kM} {h : kH} {a1 : Int32} {z : ((Nat ⊕ Int32) × kM)} {mc ms : Nat} (hmc : 1 ≤ mc) (hms : 6 ≤ ms) (R : kRl A T M h) (hF : F_4 T a1 M = some z) : kRun G (d + 2) 4 [.ref (A lD), .int a1] h mc ms (kPTI A T z) := by
  refine ⟨⟨rfl, Nat.le_of_ble_eq_true rfl⟩, ?_⟩
  show kWP _ _ (kRun G (d + 1)) _ 0 [some (.ref (A lD)), some (.int a1), none] [] _ _ _
  have K : (fun z : ((Nat ⊕ Int32) × kM) => ∀ h1, kRl A T z.2 h1 → kPTI A T z (Sum.elim (fun E => .inr E) (fun v => .inl (some (.int v))) z.1) h1) z := fun _ q => ⟨rfl, q⟩
  unfold F_4 at hF
  refine k_aload_n (pc := 0) i_4_0 rfl rfl ?_
  refine k_getf (pc := 1) i_4_1 f_0_10 (rd_D R) rfl ?_
  refine k_iload_n (pc := 4) i_4_4 rfl ?_
  obtain ⟨r1, M2, q3, hF⟩ := kBd_el hF
  refine kcv_B (pc := 5) (As := [.ref (A lTs), .int a1]) (st := []) (A := A) (T := T) (r := r1) (M1 := M2) i_4_5 m_0_68 rfl rfl rfl rfl (rd_Ts R) rfl (Nat.le_of_ble_eq_true rfl) (D_83 R q3) (fun h R => ?_)
  refine k_astore_n (pc := 8) (lo2 := [some (.ref (A lD)), some (.int a1), some (rTb A r1)]) i_4_8 (Nat.le_of_ble_eq_true rfl) (rf_is _) rfl ?_
  refine k_aload_n (pc := 9) i_4_9 rfl (rf_is _) ?_
  rcases kOpt_el hF with ⟨rfl, hG⟩ | ⟨j4, rfl, hG⟩
  · replace hF := hG
    clear hG
    refine k_nonnullN (pc := 10) i_4_10 ?_
    obtain rfl := Option.some.inj hF
    exact k_throw (pc := 13) t_4_13 (by omega) (by omega) (Nat.le_of_ble_eq_true rfl) (K _ R)
  · replace hF := hG
    clear hG
    refine k_nonnull (pc := 10) (tgt := 23) i_4_10 (by decide) ?_
    refine k_aload_n (pc := 23) i_4_23 rfl rfl ?_
    obtain ⟨g6, hF⟩ := kGd_el hF
    refine k_getf (pc := 24) i_4_24 f_0_90 (rd_Tb (i := j4) R g6) rfl ?_
    refine k_bipush (pc := 27) (v := 40) i_4_27 (by decide) ?_
    refine k_icmp_ge (pc := 29) (tgt := 43) i_4_29 (by decide) (fun c7 => ?_) (fun c7 => ?_)
    · rw [if_pos c7] at hF
      exact W_4_43 (d := d) hmc hms rfl R K hF
    · rw [if_neg c7] at hF
      refine k_aload_n (pc := 32) i_4_32 rfl rfl ?_
      refine k_getf (pc := 33) i_4_33 f_0_10 (rd_D R) rfl ?_
      refine k_iconst (pc := 36) (v := 1) i_4_36 (by decide) ?_
      obtain ⟨r8, M9, q10, hF⟩ := kBd_el hF
      refine kcv_I (pc := 37) (As := [.ref (A lTs), .int 1]) (st := []) (A := A) (T := T) (r := r8) (M1 := M9) i_4_37 m_0_93 rfl rfl rfl rfl (rd_Ts R) rfl (Nat.le_of_ble_eq_true rfl) (D_85 R q10) (fun h R => ?_)
      refine k_if_ne (pc := 40) (tgt := 53) i_4_40 (by decide) (fun c11 => ?_) (fun c11 => ?_)
      · rw [if_neg c11] at hF
        refine k_aload_n (pc := 53) i_4_53 rfl rfl ?_
        refine k_null (pc := 54) i_4_54 ?_
        refine k_putf (pc := 55) i_4_55 f_0_41 (rd_D R) (by decide +kernel) (Nat.le_of_ble_eq_true rfl) rfl rfl rfl (fun h e12 => ?_)
        replace R := kRl_sq (l := lD) (k := 6) (v := none) R rfl e12
        clear e12
        refine k_aload_n (pc := 58) i_4_58 rfl rfl ?_
        refine k_getf (pc := 59) i_4_59 f_0_10 (rd_D R) rfl ?_
        refine k_iconst (pc := 62) (v := 1) i_4_62 (by decide) ?_
        obtain ⟨r13, M14, q15, hF⟩ := kBd_el hF
        refine kcv_V (pc := 63) (As := [.ref (A lTs), .int 1]) (st := []) (A := A) (T := T) (r := r13) (M1 := M14) i_4_63 m_0_98 rfl rfl rfl rfl (rd_Ts R) rfl (Nat.le_of_ble_eq_true rfl) (D_86 R q15) (fun h R => ?_)
        refine k_aload_n (pc := 66) i_4_66 rfl rfl ?_
        refine k_aload_n (pc := 67) i_4_67 rfl rfl ?_
        refine k_getf (pc := 68) i_4_68 f_0_16 (rd_D R) rfl ?_
        obtain ⟨r16, M17, q18, hF⟩ := kBd_el hF
        refine kcv_V (pc := 71) (As := [.ref (A (lTb j4)), .ref (A lHa)]) (st := []) (A := A) (T := T) (r := r16) (M1 := M17) i_4_71 m_0_102 rfl rfl rfl rfl (rd_Tb (i := j4) R g6) rfl (Nat.le_of_ble_eq_true rfl) (D_75 R q18) (fun h R => ?_)
        refine k_aload_n (pc := 74) i_4_74 rfl rfl ?_
        refine k_getf (pc := 75) i_4_75 f_0_90 (rd_Tb (i := j4) R g6) rfl ?_
        obtain rfl := Option.some.inj hF
        exact k_ireturn (pc := 78) i_4_78 rfl rfl (K _ R)
      · rw [if_pos c11] at hF
        exact W_4_43 (d := d) hmc hms rfl R K hF
-- 5: RD delete
noncomputable def F_5_24 (T : kT) (M : kM) : Option ((Nat ⊕ Int32) × kM) :=
  some (.inl 0, M)
set_option maxHeartbeats 1000000 in
theorem W_5_24 {G : kG} {d : Nat} {A : kLb → Nat} {C : kCl} {P : kO → kH → Prop} {T : kT} {M : kM} {h : kH} {b0 b1 b2 b3 b4 b5 : Option Value} {z : ((Nat ⊕ Int32) × kM)} {mc ms : Nat} (hmc : 1 ≤ mc) (hms : 6 ≤ ms) (hC : C = kRun G (d + 3)) (R : kRl A T M h) (K : (fun z : ((Nat ⊕ Int32) × kM) => ∀ h1, kRl A T z.2 h1 → P (Sum.elim (fun E => .inr E) (fun v => .inl (some (.int v))) z.1) h1) z) (hF : F_5_24 T  M = some z) : kWP G 5 C P 24 [b0, b1, b2, b3, b4, b5] [] h mc ms := by
  unfold F_5_24 at hF
  obtain rfl := Option.some.inj hF
  exact k_throw (pc := 24) t_5_24 (by omega) (by omega) (Nat.le_of_ble_eq_true rfl) (K _ R)
noncomputable def F_5 (T : kT) (a1 : Int32) (a2 : Int32) (a3 : Int32) (M : kM) : Option ((Nat ⊕ Int32) × kM) :=
  kBd (F_83 T a1 M) (fun r1 M2 => kOpt r1 (F_5_24 T  M2) (fun j4 => kGd (kLv T (lTb j4)) (kBd (F_71 T j4 a2 M2) (fun r7 M8 => if r7 = 0 then (F_5_24 T  M8) else (kBd (F_76 T j4 a2 a3 M8) (fun r11 M12 => kBd (F_85 T r11 M12) (fun r14 M15 => if r14 = 0 then (some (.inl 1, M15)) else (kBd (F_86 T r11 (sq M15 lD 6 none)) (fun r19 M20 => kBd (F_78 T j4 a2 a3 M20) (fun r22 M23 => some (.inr (r11), M23)))))))))))
set_option maxHeartbeats 1000000 in
theorem D_5 {G : kG} {d : Nat} {A : kLb → Nat} {T : kT} {M : kM} {h : kH} {a1 : Int32} {a2 : Int32} {a3 : Int32} {z : ((Nat ⊕ Int32) × kM)} {mc ms : Nat} (hmc : 1 ≤ mc) (hms : 6 ≤ ms) (R : kRl A T M h) (hF : F_5 T a1 a2 a3 M = some z) : kRun G (d + 4) 5 [.ref (A lD), .int a1, .int a2, .int a3] h mc ms (kPTI A T z) := by
  refine ⟨⟨rfl, Nat.le_of_ble_eq_true rfl⟩, ?_⟩
  show kWP _ _ (kRun G (d + 3)) _ 0 [some (.ref (A lD)), some (.int a1), some (.int a2), some (.int a3), none, none] [] _ _ _
  have K : (fun z : ((Nat ⊕ Int32) × kM) => ∀ h1, kRl A T z.2 h1 → kPTI A T z (Sum.elim (fun E => .inr E) (fun v => .inl (some (.int v))) z.1) h1) z := fun _ q => ⟨rfl, q⟩
  unfold F_5 at hF
  refine k_aload_n (pc := 0) i_5_0 rfl rfl ?_
  refine k_getf (pc := 1) i_5_1 f_0_10 (rd_D R) rfl ?_
  refine k_iload_n (pc := 4) i_5_4 rfl ?_
  obtain ⟨r1, M2, q3, hF⟩ := kBd_el hF
  refine kcv_B (pc := 5) (As := [.ref (A lTs), .int a1]) (st := []) (A := A) (T := T) (r := r1) (M1 := M2) i_5_5 m_0_68 rfl rfl rfl rfl (rd_Ts R) rfl (Nat.le_of_ble_eq_true rfl) (D_83 R q3) (fun h R => ?_)
  refine k_astore (pc := 8) (lo2 := [some (.ref (A lD)), some (.int a1), some (.int a2), some (.int a3), some (rTb A r1), none]) i_5_8 (Nat.le_of_ble_eq_true rfl) (rf_is _) rfl ?_
  refine k_aload (pc := 10) i_5_10 rfl (rf_is _) ?_
  rcases kOpt_el hF with ⟨rfl, hG⟩ | ⟨j4, rfl, hG⟩
  · replace hF := hG
    clear hG
    refine k_isnullN (pc := 12) (tgt := 24) i_5_12 (by decide) ?_
    exact W_5_24 (d := d) hmc hms rfl R K hF
  · replace hF := hG
    clear hG
    refine k_isnull (pc := 12) i_5_12 ?_
    refine k_aload (pc := 15) i_5_15 rfl rfl ?_
    refine k_iload_n (pc := 17) i_5_17 rfl ?_
    obtain ⟨g6, hF⟩ := kGd_el hF
    obtain ⟨r7, M8, q9, hF⟩ := kBd_el hF
    refine kcv_I (pc := 18) (As := [.ref (A (lTb j4)), .int a2]) (st := []) (A := A) (T := T) (r := r7) (M1 := M8) i_5_18 m_0_72 rfl rfl rfl rfl (rd_Tb (i := j4) R g6) rfl (Nat.le_of_ble_eq_true rfl) (D_71 R q9) (fun h R => ?_)
    refine k_if_ne (pc := 21) (tgt := 34) i_5_21 (by decide) (fun c10 => ?_) (fun c10 => ?_)
    · rw [if_neg c10] at hF
      refine k_aload (pc := 34) i_5_34 rfl rfl ?_
      refine k_iload_n (pc := 36) i_5_36 rfl ?_
      refine k_iload_n (pc := 37) i_5_37 rfl ?_
      obtain ⟨r11, M12, q13, hF⟩ := kBd_el hF
      refine kcv_I (pc := 38) (As := [.ref (A (lTb j4)), .int a2, .int a3]) (st := []) (A := A) (T := T) (r := r11) (M1 := M12) i_5_38 m_0_106 rfl rfl rfl rfl (rd_Tb (i := j4) R g6) rfl (Nat.le_of_ble_eq_true rfl) (D_76 R q13) (fun h R => ?_)
      refine k_istore (pc := 41) (lo2 := [some (.ref (A lD)), some (.int a1), some (.int a2), some (.int a3), some (.ref (A (lTb j4))), some (.int r11)]) i_5_41 (Nat.le_of_ble_eq_true rfl) rfl ?_
      refine k_aload_n (pc := 43) i_5_43 rfl rfl ?_
      refine k_getf (pc := 44) i_5_44 f_0_10 (rd_D R) rfl ?_
      refine k_iload (pc := 47) i_5_47 rfl ?_
      obtain ⟨r14, M15, q16, hF⟩ := kBd_el hF
      refine kcv_I (pc := 49) (As := [.ref (A lTs), .int r11]) (st := []) (A := A) (T := T) (r := r14) (M1 := M15) i_5_49 m_0_93 rfl rfl rfl rfl (rd_Ts R) rfl (Nat.le_of_ble_eq_true rfl) (D_85 R q16) (fun h R => ?_)
      refine k_if_ne (pc := 52) (tgt := 65) i_5_52 (by decide) (fun c17 => ?_) (fun c17 => ?_)
      · rw [if_neg c17] at hF
        refine k_aload_n (pc := 65) i_5_65 rfl rfl ?_
        refine k_null (pc := 66) i_5_66 ?_
        refine k_putf (pc := 67) i_5_67 f_0_41 (rd_D R) (by decide +kernel) (Nat.le_of_ble_eq_true rfl) rfl rfl rfl (fun h e18 => ?_)
        replace R := kRl_sq (l := lD) (k := 6) (v := none) R rfl e18
        clear e18
        refine k_aload_n (pc := 70) i_5_70 rfl rfl ?_
        refine k_getf (pc := 71) i_5_71 f_0_10 (rd_D R) rfl ?_
        refine k_iload (pc := 74) i_5_74 rfl ?_
        obtain ⟨r19, M20, q21, hF⟩ := kBd_el hF
        refine kcv_V (pc := 76) (As := [.ref (A lTs), .int r11]) (st := []) (A := A) (T := T) (r := r19) (M1 := M20) i_5_76 m_0_98 rfl rfl rfl rfl (rd_Ts R) rfl (Nat.le_of_ble_eq_true rfl) (D_86 R q21) (fun h R => ?_)
        refine k_aload (pc := 79) i_5_79 rfl rfl ?_
        refine k_iload_n (pc := 81) i_5_81 rfl ?_
        refine k_iload_n (pc := 82) i_5_82 rfl ?_
        obtain ⟨r22, M23, q24, hF⟩ := kBd_el hF
        refine kcv_V (pc := 83) (As := [.ref (A (lTb j4)), .int a2, .int a3]) (st := []) (A := A) (T := T) (r := r22) (M1 := M23) i_5_83 m_0_112 rfl rfl rfl rfl (rd_Tb (i := j4) R g6) rfl (Nat.le_of_ble_eq_true rfl) (D_78 R q24) (fun h R => ?_)
        refine k_iload (pc := 86) i_5_86 rfl ?_
        obtain rfl := Option.some.inj hF
        exact k_ireturn (pc := 88) i_5_88 rfl rfl (K _ R)
      · rw [if_pos c17] at hF
        obtain rfl := Option.some.inj hF
        exact k_throw (pc := 55) t_5_55 (by omega) (by omega) (Nat.le_of_ble_eq_true rfl) (K _ R)
    · rw [if_pos c10] at hF
      exact W_5_24 (d := d) hmc hms rfl R K hF
-- 6: RD change
noncomputable def F_6_51 (T : kT) (M : kM) : Option ((Nat ⊕ Int32) × kM) :=
  some (.inl 0, M)
set_option maxHeartbeats 1000000 in
theorem W_6_51 {G : kG} {d : Nat} {A : kLb → Nat} {C : kCl} {P : kO → kH → Prop} {T : kT} {M : kM} {h : kH} {b0 b1 b2 b3 b4 b5 b6 b7 b8 : Option Value} {z : ((Nat ⊕ Int32) × kM)} {mc ms : Nat} (hmc : 1 ≤ mc) (hms : 6 ≤ ms) (hC : C = kRun G (d + 3)) (R : kRl A T M h) (K : (fun z : ((Nat ⊕ Int32) × kM) => ∀ h1, kRl A T z.2 h1 → P (Sum.elim (fun E => .inr E) (fun v => .inl (some (.int v))) z.1) h1) z) (hF : F_6_51 T  M = some z) : kWP G 6 C P 51 [b0, b1, b2, b3, b4, b5, b6, b7, b8] [] h mc ms := by
  unfold F_6_51 at hF
  obtain rfl := Option.some.inj hF
  exact k_throw (pc := 51) t_6_51 (by omega) (by omega) (Nat.le_of_ble_eq_true rfl) (K _ R)
noncomputable def F_6 (T : kT) (a1 : Int32) (a2 : Int32) (a3 : Int32) (a4 : Int32) (M : kM) : Option ((Nat ⊕ Int32) × kM) :=
  kBd (F_83 T a1 M) (fun r1 M2 => kBd (F_157 T a2 8 M2) (fun r4 M5 => kBd (F_158 T a2 8 M5) (fun r7 M8 => kOpt r1 (F_6_51 T  M8) (fun j10 => kGd (kLv T (lTb j10)) (kBd (F_71 T j10 r4 M8) (fun r13 M14 => if r13 = 0 then (F_6_51 T  M14) else (kBd (F_71 T j10 r7 M14) (fun r17 M18 => if r17 = 0 then (F_6_51 T  M18) else (kBd (F_76 T j10 r4 a3 M18) (fun r21 M22 => kBd (F_85 T r21 M22) (fun r24 M25 => if r24 = 0 then (some (.inl 1, M25)) else (kBd (F_86 T r21 (sq M25 lD 6 none)) (fun r29 M30 => kBd (F_79 T j10 r4 a3 r7 a4 M30) (fun r32 M33 => some (.inr (r21), M33)))))))))))))))
set_option maxHeartbeats 1000000 in
theorem D_6 {G : kG} {d : Nat} {A : kLb → Nat} {T : kT} {M : kM} {h : kH} {a1 : Int32} {a2 : Int32} {a3 : Int32} {a4 : Int32} {z : ((Nat ⊕ Int32) × kM)} {mc ms : Nat} (hmc : 1 ≤ mc) (hms : 6 ≤ ms) (R : kRl A T M h) (hF : F_6 T a1 a2 a3 a4 M = some z) : kRun G (d + 4) 6 [.ref (A lD), .int a1, .int a2, .int a3, .int a4] h mc ms (kPTI A T z) := by
  refine ⟨⟨rfl, Nat.le_of_ble_eq_true rfl⟩, ?_⟩
  show kWP _ _ (kRun G (d + 3)) _ 0 [some (.ref (A lD)), some (.int a1), some (.int a2), some (.int a3), some (.int a4), none, none, none, none] [] _ _ _
  have K : (fun z : ((Nat ⊕ Int32) × kM) => ∀ h1, kRl A T z.2 h1 → kPTI A T z (Sum.elim (fun E => .inr E) (fun v => .inl (some (.int v))) z.1) h1) z := fun _ q => ⟨rfl, q⟩
  unfold F_6 at hF
  refine k_aload_n (pc := 0) i_6_0 rfl rfl ?_
  refine k_getf (pc := 1) i_6_1 f_0_10 (rd_D R) rfl ?_
  refine k_iload_n (pc := 4) i_6_4 rfl ?_
  obtain ⟨r1, M2, q3, hF⟩ := kBd_el hF
  refine kcv_B (pc := 5) (As := [.ref (A lTs), .int a1]) (st := []) (A := A) (T := T) (r := r1) (M1 := M2) i_6_5 m_0_68 rfl rfl rfl rfl (rd_Ts R) rfl (Nat.le_of_ble_eq_true rfl) (D_83 R q3) (fun h R => ?_)
  refine k_astore (pc := 8) (lo2 := [some (.ref (A lD)), some (.int a1), some (.int a2), some (.int a3), some (.int a4), some (rTb A r1), none, none, none]) i_6_8 (Nat.le_of_ble_eq_true rfl) (rf_is _) rfl ?_
  refine k_iload_n (pc := 10) i_6_10 rfl ?_
  refine k_bipush (pc := 11) (v := 8) i_6_11 (by decide) ?_
  obtain ⟨r4, M5, q6, hF⟩ := kBd_el hF
  refine kcs_I (pc := 13) (As := [.int a2, .int 8]) (st := []) (A := A) (T := T) (r := r4) (M1 := M5) i_6_13 m_0_116 rfl rfl rfl (Nat.le_of_ble_eq_true rfl) (D_157 R q6) (fun h R => ?_)
  refine k_istore (pc := 16) (lo2 := [some (.ref (A lD)), some (.int a1), some (.int a2), some (.int a3), some (.int a4), some (rTb A r1), some (.int r4), none, none]) i_6_16 (Nat.le_of_ble_eq_true rfl) rfl ?_
  refine k_iload_n (pc := 18) i_6_18 rfl ?_
  refine k_bipush (pc := 19) (v := 8) i_6_19 (by decide) ?_
  obtain ⟨r7, M8, q9, hF⟩ := kBd_el hF
  refine kcs_I (pc := 21) (As := [.int a2, .int 8]) (st := []) (A := A) (T := T) (r := r7) (M1 := M8) i_6_21 m_0_121 rfl rfl rfl (Nat.le_of_ble_eq_true rfl) (D_158 R q9) (fun h R => ?_)
  refine k_istore (pc := 24) (lo2 := [some (.ref (A lD)), some (.int a1), some (.int a2), some (.int a3), some (.int a4), some (rTb A r1), some (.int r4), some (.int r7), none]) i_6_24 (Nat.le_of_ble_eq_true rfl) rfl ?_
  refine k_aload (pc := 26) i_6_26 rfl (rf_is _) ?_
  rcases kOpt_el hF with ⟨rfl, hG⟩ | ⟨j10, rfl, hG⟩
  · replace hF := hG
    clear hG
    refine k_isnullN (pc := 28) (tgt := 51) i_6_28 (by decide) ?_
    exact W_6_51 (d := d) hmc hms rfl R K hF
  · replace hF := hG
    clear hG
    refine k_isnull (pc := 28) i_6_28 ?_
    refine k_aload (pc := 31) i_6_31 rfl rfl ?_
    refine k_iload (pc := 33) i_6_33 rfl ?_
    obtain ⟨g12, hF⟩ := kGd_el hF
    obtain ⟨r13, M14, q15, hF⟩ := kBd_el hF
    refine kcv_I (pc := 35) (As := [.ref (A (lTb j10)), .int r4]) (st := []) (A := A) (T := T) (r := r13) (M1 := M14) i_6_35 m_0_72 rfl rfl rfl rfl (rd_Tb (i := j10) R g12) rfl (Nat.le_of_ble_eq_true rfl) (D_71 R q15) (fun h R => ?_)
    refine k_if_eq (pc := 38) (tgt := 51) i_6_38 (by decide) (fun c16 => ?_) (fun c16 => ?_)
    · rw [if_pos c16] at hF
      exact W_6_51 (d := d) hmc hms rfl R K hF
    · rw [if_neg c16] at hF
      refine k_aload (pc := 41) i_6_41 rfl rfl ?_
      refine k_iload (pc := 43) i_6_43 rfl ?_
      obtain ⟨r17, M18, q19, hF⟩ := kBd_el hF
      refine kcv_I (pc := 45) (As := [.ref (A (lTb j10)), .int r7]) (st := []) (A := A) (T := T) (r := r17) (M1 := M18) i_6_45 m_0_72 rfl rfl rfl rfl (rd_Tb (i := j10) R g12) rfl (Nat.le_of_ble_eq_true rfl) (D_71 R q19) (fun h R => ?_)
      refine k_if_ne (pc := 48) (tgt := 61) i_6_48 (by decide) (fun c20 => ?_) (fun c20 => ?_)
      · rw [if_neg c20] at hF
        refine k_aload (pc := 61) i_6_61 rfl rfl ?_
        refine k_iload (pc := 63) i_6_63 rfl ?_
        refine k_iload_n (pc := 65) i_6_65 rfl ?_
        obtain ⟨r21, M22, q23, hF⟩ := kBd_el hF
        refine kcv_I (pc := 66) (As := [.ref (A (lTb j10)), .int r4, .int a3]) (st := []) (A := A) (T := T) (r := r21) (M1 := M22) i_6_66 m_0_106 rfl rfl rfl rfl (rd_Tb (i := j10) R g12) rfl (Nat.le_of_ble_eq_true rfl) (D_76 R q23) (fun h R => ?_)
        refine k_istore (pc := 69) (lo2 := [some (.ref (A lD)), some (.int a1), some (.int a2), some (.int a3), some (.int a4), some (.ref (A (lTb j10))), some (.int r4), some (.int r7), some (.int r21)]) i_6_69 (Nat.le_of_ble_eq_true rfl) rfl ?_
        refine k_aload_n (pc := 71) i_6_71 rfl rfl ?_
        refine k_getf (pc := 72) i_6_72 f_0_10 (rd_D R) rfl ?_
        refine k_iload (pc := 75) i_6_75 rfl ?_
        obtain ⟨r24, M25, q26, hF⟩ := kBd_el hF
        refine kcv_I (pc := 77) (As := [.ref (A lTs), .int r21]) (st := []) (A := A) (T := T) (r := r24) (M1 := M25) i_6_77 m_0_93 rfl rfl rfl rfl (rd_Ts R) rfl (Nat.le_of_ble_eq_true rfl) (D_85 R q26) (fun h R => ?_)
        refine k_if_ne (pc := 80) (tgt := 93) i_6_80 (by decide) (fun c27 => ?_) (fun c27 => ?_)
        · rw [if_neg c27] at hF
          refine k_aload_n (pc := 93) i_6_93 rfl rfl ?_
          refine k_null (pc := 94) i_6_94 ?_
          refine k_putf (pc := 95) i_6_95 f_0_41 (rd_D R) (by decide +kernel) (Nat.le_of_ble_eq_true rfl) rfl rfl rfl (fun h e28 => ?_)
          replace R := kRl_sq (l := lD) (k := 6) (v := none) R rfl e28
          clear e28
          refine k_aload_n (pc := 98) i_6_98 rfl rfl ?_
          refine k_getf (pc := 99) i_6_99 f_0_10 (rd_D R) rfl ?_
          refine k_iload (pc := 102) i_6_102 rfl ?_
          obtain ⟨r29, M30, q31, hF⟩ := kBd_el hF
          refine kcv_V (pc := 104) (As := [.ref (A lTs), .int r21]) (st := []) (A := A) (T := T) (r := r29) (M1 := M30) i_6_104 m_0_98 rfl rfl rfl rfl (rd_Ts R) rfl (Nat.le_of_ble_eq_true rfl) (D_86 R q31) (fun h R => ?_)
          refine k_aload (pc := 107) i_6_107 rfl rfl ?_
          refine k_iload (pc := 109) i_6_109 rfl ?_
          refine k_iload_n (pc := 111) i_6_111 rfl ?_
          refine k_iload (pc := 112) i_6_112 rfl ?_
          refine k_iload (pc := 114) i_6_114 rfl ?_
          obtain ⟨r32, M33, q34, hF⟩ := kBd_el hF
          refine kcv_V (pc := 116) (As := [.ref (A (lTb j10)), .int r4, .int a3, .int r7, .int a4]) (st := []) (A := A) (T := T) (r := r32) (M1 := M33) i_6_116 m_0_124 rfl rfl rfl rfl (rd_Tb (i := j10) R g12) rfl (Nat.le_of_ble_eq_true rfl) (D_79 R q34) (fun h R => ?_)
          refine k_iload (pc := 119) i_6_119 rfl ?_
          obtain rfl := Option.some.inj hF
          exact k_ireturn (pc := 121) i_6_121 rfl rfl (K _ R)
        · rw [if_pos c27] at hF
          obtain rfl := Option.some.inj hF
          exact k_throw (pc := 83) t_6_83 (by omega) (by omega) (Nat.le_of_ble_eq_true rfl) (K _ R)
      · rw [if_pos c20] at hF
        exact W_6_51 (d := d) hmc hms rfl R K hF
-- 7: RD begin
noncomputable def F_7 (T : kT) (M : kM) : Option ((Nat ⊕ Unit) × kM) :=
  if (gp M lTs 2) = 0 then (kBd (F_87 T  (sq M lD 6 none)) (fun r3 M4 => some (.inr (()), M4))) else (some (.inl 1, M))
set_option maxHeartbeats 1000000 in
theorem D_7 {G : kG} {d : Nat} {A : kLb → Nat} {T : kT} {M : kM} {h : kH} {z : ((Nat ⊕ Unit) × kM)} {mc ms : Nat} (hmc : 1 ≤ mc) (hms : 6 ≤ ms) (R : kRl A T M h) (hF : F_7 T  M = some z) : kRun G (d + 3) 7 [.ref (A lD)] h mc ms (kPTV A T z) := by
  refine ⟨⟨rfl, Nat.le_of_ble_eq_true rfl⟩, ?_⟩
  show kWP _ _ (kRun G (d + 2)) _ 0 [some (.ref (A lD))] [] _ _ _
  have K : (fun z : ((Nat ⊕ Unit) × kM) => ∀ h1, kRl A T z.2 h1 → kPTV A T z (Sum.elim (fun E => .inr E) (fun _ => .inl none) z.1) h1) z := fun _ q => ⟨rfl, q⟩
  unfold F_7 at hF
  refine k_aload_n (pc := 0) i_7_0 rfl rfl ?_
  refine k_getf (pc := 1) i_7_1 f_0_10 (rd_D R) rfl ?_
  refine k_getf (pc := 4) i_7_4 f_0_55 (rd_Ts R) rfl ?_
  refine k_if_eq (pc := 7) (tgt := 20) i_7_7 (by decide) (fun c1 => ?_) (fun c1 => ?_)
  · rw [if_pos c1] at hF
    refine k_aload_n (pc := 20) i_7_20 rfl rfl ?_
    refine k_null (pc := 21) i_7_21 ?_
    refine k_putf (pc := 22) i_7_22 f_0_41 (rd_D R) (by decide +kernel) (Nat.le_of_ble_eq_true rfl) rfl rfl rfl (fun h e2 => ?_)
    replace R := kRl_sq (l := lD) (k := 6) (v := none) R rfl e2
    clear e2
    refine k_aload_n (pc := 25) i_7_25 rfl rfl ?_
    refine k_getf (pc := 26) i_7_26 f_0_10 (rd_D R) rfl ?_
    obtain ⟨r3, M4, q5, hF⟩ := kBd_el hF
    refine kcv_V (pc := 29) (As := [.ref (A lTs)]) (st := []) (A := A) (T := T) (r := r3) (M1 := M4) i_7_29 m_0_130 rfl rfl rfl rfl (rd_Ts R) rfl (Nat.le_of_ble_eq_true rfl) (D_87 R q5) (fun h R => ?_)
    obtain rfl := Option.some.inj hF
    exact k_return (pc := 32) i_7_32 rfl (K _ R)
  · rw [if_neg c1] at hF
    obtain rfl := Option.some.inj hF
    exact k_throw (pc := 10) t_7_10 (by omega) (by omega) (Nat.le_of_ble_eq_true rfl) (K _ R)
-- 8: RD commit
noncomputable def F_8 (T : kT) (M : kM) : Option ((Nat ⊕ Int32) × kM) :=
  if (gp M lTs 2) = 0 then (some (.inl 1, M)) else (kBd (F_88 T  (sq M lD 6 none)) (fun r3 M4 => some (.inr (r3), M4)))
set_option maxHeartbeats 1000000 in
theorem D_8 {G : kG} {d : Nat} {A : kLb → Nat} {T : kT} {M : kM} {h : kH} {z : ((Nat ⊕ Int32) × kM)} {mc ms : Nat} (hmc : 1 ≤ mc) (hms : 6 ≤ ms) (R : kRl A T M h) (hF : F_8 T  M = some z) : kRun G (d + 2) 8 [.ref (A lD)] h mc ms (kPTI A T z) := by
  refine ⟨⟨rfl, Nat.le_of_ble_eq_true rfl⟩, ?_⟩
  show kWP _ _ (kRun G (d + 1)) _ 0 [some (.ref (A lD))] [] _ _ _
  have K : (fun z : ((Nat ⊕ Int32) × kM) => ∀ h1, kRl A T z.2 h1 → kPTI A T z (Sum.elim (fun E => .inr E) (fun v => .inl (some (.int v))) z.1) h1) z := fun _ q => ⟨rfl, q⟩
  unfold F_8 at hF
  refine k_aload_n (pc := 0) i_8_0 rfl rfl ?_
  refine k_getf (pc := 1) i_8_1 f_0_10 (rd_D R) rfl ?_
  refine k_getf (pc := 4) i_8_4 f_0_55 (rd_Ts R) rfl ?_
  refine k_if_ne (pc := 7) (tgt := 20) i_8_7 (by decide) (fun c1 => ?_) (fun c1 => ?_)
  · rw [if_neg c1] at hF
    refine k_aload_n (pc := 20) i_8_20 rfl rfl ?_
    refine k_null (pc := 21) i_8_21 ?_
    refine k_putf (pc := 22) i_8_22 f_0_41 (rd_D R) (by decide +kernel) (Nat.le_of_ble_eq_true rfl) rfl rfl rfl (fun h e2 => ?_)
    replace R := kRl_sq (l := lD) (k := 6) (v := none) R rfl e2
    clear e2
    refine k_aload_n (pc := 25) i_8_25 rfl rfl ?_
    refine k_getf (pc := 26) i_8_26 f_0_10 (rd_D R) rfl ?_
    obtain ⟨r3, M4, q5, hF⟩ := kBd_el hF
    refine kcv_I (pc := 29) (As := [.ref (A lTs)]) (st := []) (A := A) (T := T) (r := r3) (M1 := M4) i_8_29 m_0_135 rfl rfl rfl rfl (rd_Ts R) rfl (Nat.le_of_ble_eq_true rfl) (D_88 R q5) (fun h R => ?_)
    obtain rfl := Option.some.inj hF
    exact k_ireturn (pc := 32) i_8_32 rfl rfl (K _ R)
  · rw [if_pos c1] at hF
    obtain rfl := Option.some.inj hF
    exact k_throw (pc := 10) t_8_10 (by omega) (by omega) (Nat.le_of_ble_eq_true rfl) (K _ R)
-- 9: RD rollback
noncomputable def F_9 (T : kT) (M : kM) : Option ((Nat ⊕ Int32) × kM) :=
  if (gp M lTs 2) = 0 then (some (.inl 1, M)) else (kBd (F_89 T  (sq M lD 6 none)) (fun r3 M4 => kBd (F_88 T  M4) (fun r6 M7 => some (.inr (r6), M7))))
set_option maxHeartbeats 1000000 in
theorem D_9 {G : kG} {d : Nat} {A : kLb → Nat} {T : kT} {M : kM} {h : kH} {z : ((Nat ⊕ Int32) × kM)} {mc ms : Nat} (hmc : 1 ≤ mc) (hms : 6 ≤ ms) (R : kRl A T M h) (hF : F_9 T  M = some z) : kRun G (d + 3) 9 [.ref (A lD)] h mc ms (kPTI A T z) := by
  refine ⟨⟨rfl, Nat.le_of_ble_eq_true rfl⟩, ?_⟩
  show kWP _ _ (kRun G (d + 2)) _ 0 [some (.ref (A lD))] [] _ _ _
  have K : (fun z : ((Nat ⊕ Int32) × kM) => ∀ h1, kRl A T z.2 h1 → kPTI A T z (Sum.elim (fun E => .inr E) (fun v => .inl (some (.int v))) z.1) h1) z := fun _ q => ⟨rfl, q⟩
  unfold F_9 at hF
  refine k_aload_n (pc := 0) i_9_0 rfl rfl ?_
  refine k_getf (pc := 1) i_9_1 f_0_10 (rd_D R) rfl ?_
  refine k_getf (pc := 4) i_9_4 f_0_55 (rd_Ts R) rfl ?_
  refine k_if_ne (pc := 7) (tgt := 20) i_9_7 (by decide) (fun c1 => ?_) (fun c1 => ?_)
  · rw [if_neg c1] at hF
    refine k_aload_n (pc := 20) i_9_20 rfl rfl ?_
    refine k_null (pc := 21) i_9_21 ?_
    refine k_putf (pc := 22) i_9_22 f_0_41 (rd_D R) (by decide +kernel) (Nat.le_of_ble_eq_true rfl) rfl rfl rfl (fun h e2 => ?_)
    replace R := kRl_sq (l := lD) (k := 6) (v := none) R rfl e2
    clear e2
    refine k_aload_n (pc := 25) i_9_25 rfl rfl ?_
    refine k_getf (pc := 26) i_9_26 f_0_10 (rd_D R) rfl ?_
    obtain ⟨r3, M4, q5, hF⟩ := kBd_el hF
    refine kcv_V (pc := 29) (As := [.ref (A lTs)]) (st := []) (A := A) (T := T) (r := r3) (M1 := M4) i_9_29 m_0_139 rfl rfl rfl rfl (rd_Ts R) rfl (Nat.le_of_ble_eq_true rfl) (D_89 R q5) (fun h R => ?_)
    refine k_aload_n (pc := 32) i_9_32 rfl rfl ?_
    refine k_getf (pc := 33) i_9_33 f_0_10 (rd_D R) rfl ?_
    obtain ⟨r6, M7, q8, hF⟩ := kBd_el hF
    refine kcv_I (pc := 36) (As := [.ref (A lTs)]) (st := []) (A := A) (T := T) (r := r6) (M1 := M7) i_9_36 m_0_135 rfl rfl rfl rfl (rd_Ts R) rfl (Nat.le_of_ble_eq_true rfl) (D_88 R q8) (fun h R => ?_)
    obtain rfl := Option.some.inj hF
    exact k_ireturn (pc := 39) i_9_39 rfl rfl (K _ R)
  · rw [if_pos c1] at hF
    obtain rfl := Option.some.inj hF
    exact k_throw (pc := 10) t_9_10 (by omega) (by omega) (Nat.le_of_ble_eq_true rfl) (K _ R)
-- 10: RD cell
noncomputable def F_10_54 (T : kT) (M : kM) : Option ((Nat ⊕ Int32) × kM) :=
  some (.inl 0, M)
set_option maxHeartbeats 1000000 in
theorem W_10_54 {G : kG} {d : Nat} {A : kLb → Nat} {C : kCl} {P : kO → kH → Prop} {T : kT} {M : kM} {h : kH} {b0 b1 b2 b3 b4 : Option Value} {z : ((Nat ⊕ Int32) × kM)} {mc ms : Nat} (hmc : 1 ≤ mc) (hms : 6 ≤ ms) (hC : C = kRun G (d + 2)) (R : kRl A T M h) (K : (fun z : ((Nat ⊕ Int32) × kM) => ∀ h1, kRl A T z.2 h1 → P (Sum.elim (fun E => .inr E) (fun v => .inl (some (.int v))) z.1) h1) z) (hF : F_10_54 T  M = some z) : kWP G 10 C P 54 [b0, b1, b2, b3, b4] [] h mc ms := by
  unfold F_10_54 at hF
  obtain rfl := Option.some.inj hF
  exact k_throw (pc := 54) t_10_54 (by omega) (by omega) (Nat.le_of_ble_eq_true rfl) (K _ R)
noncomputable def F_10 (T : kT) (a1 : Int32) (a2 : Int32) (a3 : Int32) (M : kM) : Option ((Nat ⊕ Int32) × kM) :=
  kBd (F_83 T a1 M) (fun r1 M2 => kOpt r1 (some (.inl 0, M2)) (fun j4 => if a2 = (-1) then (kGd (kLv T (lTb j4)) (some (.inr (gp M2 (lTb j4) 4), M2))) else (kGd (kLv T (lTb j4)) (kBd (F_72 T j4 a2 M2) (fun r8 M9 => if r8 = 0 then (F_10_54 T  M9) else (kBd (F_71 T j4 a3 M9) (fun r12 M13 => if r12 = 0 then (F_10_54 T  M13) else (kBd (F_73 T j4 a2 a3 M13) (fun r16 M17 => some (.inr (r16), M17))))))))))
set_option maxHeartbeats 1000000 in
theorem D_10 {G : kG} {d : Nat} {A : kLb → Nat} {T : kT} {M : kM} {h : kH} {a1 : Int32} {a2 : Int32} {a3 : Int32} {z : ((Nat ⊕ Int32) × kM)} {mc ms : Nat} (hmc : 1 ≤ mc) (hms : 6 ≤ ms) (R : kRl A T M h) (hF : F_10 T a1 a2 a3 M = some z) : kRun G (d + 3) 10 [.ref (A lD), .int a1, .int a2, .int a3] h mc ms (kPTI A T z) := by
  refine ⟨⟨rfl, Nat.le_of_ble_eq_true rfl⟩, ?_⟩
  show kWP _ _ (kRun G (d + 2)) _ 0 [some (.ref (A lD)), some (.int a1), some (.int a2), some (.int a3), none] [] _ _ _
  have K : (fun z : ((Nat ⊕ Int32) × kM) => ∀ h1, kRl A T z.2 h1 → kPTI A T z (Sum.elim (fun E => .inr E) (fun v => .inl (some (.int v))) z.1) h1) z := fun _ q => ⟨rfl, q⟩
  unfold F_10 at hF
  refine k_aload_n (pc := 0) i_10_0 rfl rfl ?_
  refine k_getf (pc := 1) i_10_1 f_0_10 (rd_D R) rfl ?_
  refine k_iload_n (pc := 4) i_10_4 rfl ?_
  obtain ⟨r1, M2, q3, hF⟩ := kBd_el hF
  refine kcv_B (pc := 5) (As := [.ref (A lTs), .int a1]) (st := []) (A := A) (T := T) (r := r1) (M1 := M2) i_10_5 m_0_68 rfl rfl rfl rfl (rd_Ts R) rfl (Nat.le_of_ble_eq_true rfl) (D_83 R q3) (fun h R => ?_)
  refine k_astore (pc := 8) (lo2 := [some (.ref (A lD)), some (.int a1), some (.int a2), some (.int a3), some (rTb A r1)]) i_10_8 (Nat.le_of_ble_eq_true rfl) (rf_is _) rfl ?_
  refine k_aload (pc := 10) i_10_10 rfl (rf_is _) ?_
  rcases kOpt_el hF with ⟨rfl, hG⟩ | ⟨j4, rfl, hG⟩
  · replace hF := hG
    clear hG
    refine k_nonnullN (pc := 12) i_10_12 ?_
    obtain rfl := Option.some.inj hF
    exact k_throw (pc := 15) t_10_15 (by omega) (by omega) (Nat.le_of_ble_eq_true rfl) (K _ R)
  · replace hF := hG
    clear hG
    refine k_nonnull (pc := 12) (tgt := 25) i_10_12 (by decide) ?_
    refine k_iload_n (pc := 25) i_10_25 rfl ?_
    refine k_iconst (pc := 26) (v := (-1)) i_10_26 (by decide) ?_
    refine k_icmp_ne (pc := 27) (tgt := 36) i_10_27 (by decide) (fun c6 => ?_) (fun c6 => ?_)
    · rw [if_neg c6] at hF
      refine k_aload (pc := 36) i_10_36 rfl rfl ?_
      refine k_iload_n (pc := 38) i_10_38 rfl ?_
      obtain ⟨g7, hF⟩ := kGd_el hF
      obtain ⟨r8, M9, q10, hF⟩ := kBd_el hF
      refine kcv_I (pc := 39) (As := [.ref (A (lTb j4)), .int a2]) (st := []) (A := A) (T := T) (r := r8) (M1 := M9) i_10_39 m_0_142 rfl rfl rfl rfl (rd_Tb (i := j4) R g7) rfl (Nat.le_of_ble_eq_true rfl) (D_72 R q10) (fun h R => ?_)
      refine k_if_eq (pc := 42) (tgt := 54) i_10_42 (by decide) (fun c11 => ?_) (fun c11 => ?_)
      · rw [if_pos c11] at hF
        exact W_10_54 (d := d) hmc hms rfl R K hF
      · rw [if_neg c11] at hF
        refine k_aload (pc := 45) i_10_45 rfl rfl ?_
        refine k_iload_n (pc := 47) i_10_47 rfl ?_
        obtain ⟨r12, M13, q14, hF⟩ := kBd_el hF
        refine kcv_I (pc := 48) (As := [.ref (A (lTb j4)), .int a3]) (st := []) (A := A) (T := T) (r := r12) (M1 := M13) i_10_48 m_0_72 rfl rfl rfl rfl (rd_Tb (i := j4) R g7) rfl (Nat.le_of_ble_eq_true rfl) (D_71 R q14) (fun h R => ?_)
        refine k_if_ne (pc := 51) (tgt := 64) i_10_51 (by decide) (fun c15 => ?_) (fun c15 => ?_)
        · rw [if_neg c15] at hF
          refine k_aload (pc := 64) i_10_64 rfl rfl ?_
          refine k_iload_n (pc := 66) i_10_66 rfl ?_
          refine k_iload_n (pc := 67) i_10_67 rfl ?_
          obtain ⟨r16, M17, q18, hF⟩ := kBd_el hF
          refine kcv_I (pc := 68) (As := [.ref (A (lTb j4)), .int a2, .int a3]) (st := []) (A := A) (T := T) (r := r16) (M1 := M17) i_10_68 m_0_147 rfl rfl rfl rfl (rd_Tb (i := j4) R g7) rfl (Nat.le_of_ble_eq_true rfl) (D_73 R q18) (fun h R => ?_)
          obtain rfl := Option.some.inj hF
          exact k_ireturn (pc := 71) i_10_71 rfl rfl (K _ R)
        · rw [if_pos c15] at hF
          exact W_10_54 (d := d) hmc hms rfl R K hF
    · rw [if_pos c6] at hF
      refine k_aload (pc := 30) i_10_30 rfl rfl ?_
      obtain ⟨g19, hF⟩ := kGd_el hF
      refine k_getf (pc := 32) i_10_32 f_0_90 (rd_Tb (i := j4) R g19) rfl ?_
      obtain rfl := Option.some.inj hF
      exact k_ireturn (pc := 35) i_10_35 rfl rfl (K _ R)
-- 11: RD feed
noncomputable def F_11 (T : kT) (a1 : Int32) (M : kM) : Option ((Nat ⊕ Int32) × kM) :=
  if (gp M lRd 1) < 60 then (kBd (F_31 T a1 M) (fun r2 M3 => some (.inr (gp M3 lRd 1), M3))) else (some (.inl 1, M))
set_option maxHeartbeats 1000000 in
theorem D_11 {G : kG} {d : Nat} {A : kLb → Nat} {T : kT} {M : kM} {h : kH} {a1 : Int32} {z : ((Nat ⊕ Int32) × kM)} {mc ms : Nat} (hmc : 1 ≤ mc) (hms : 6 ≤ ms) (R : kRl A T M h) (hF : F_11 T a1 M = some z) : kRun G (d + 2) 11 [.ref (A lD), .int a1] h mc ms (kPTI A T z) := by
  refine ⟨⟨rfl, Nat.le_of_ble_eq_true rfl⟩, ?_⟩
  show kWP _ _ (kRun G (d + 1)) _ 0 [some (.ref (A lD)), some (.int a1)] [] _ _ _
  have K : (fun z : ((Nat ⊕ Int32) × kM) => ∀ h1, kRl A T z.2 h1 → kPTI A T z (Sum.elim (fun E => .inr E) (fun v => .inl (some (.int v))) z.1) h1) z := fun _ q => ⟨rfl, q⟩
  unfold F_11 at hF
  refine k_aload_n (pc := 0) i_11_0 rfl rfl ?_
  refine k_getf (pc := 1) i_11_1 f_0_23 (rd_D R) rfl ?_
  refine k_getf (pc := 4) i_11_4 f_0_150 (rd_Rd R) rfl ?_
  refine k_bipush (pc := 7) (v := 60) i_11_7 (by decide) ?_
  refine k_icmp_lt (pc := 9) (tgt := 22) i_11_9 (by decide) (fun c1 => ?_) (fun c1 => ?_)
  · rw [if_pos c1] at hF
    refine k_aload_n (pc := 22) i_11_22 rfl rfl ?_
    refine k_getf (pc := 23) i_11_23 f_0_23 (rd_D R) rfl ?_
    refine k_iload_n (pc := 26) i_11_26 rfl ?_
    obtain ⟨r2, M3, q4, hF⟩ := kBd_el hF
    refine kcv_V (pc := 27) (As := [.ref (A lRd), .int a1]) (st := []) (A := A) (T := T) (r := r2) (M1 := M3) i_11_27 m_0_153 rfl rfl rfl rfl (rd_Rd R) rfl (Nat.le_of_ble_eq_true rfl) (D_31 R q4) (fun h R => ?_)
    refine k_aload_n (pc := 30) i_11_30 rfl rfl ?_
    refine k_getf (pc := 31) i_11_31 f_0_23 (rd_D R) rfl ?_
    refine k_getf (pc := 34) i_11_34 f_0_150 (rd_Rd R) rfl ?_
    obtain rfl := Option.some.inj hF
    exact k_ireturn (pc := 37) i_11_37 rfl rfl (K _ R)
  · rw [if_neg c1] at hF
    obtain rfl := Option.some.inj hF
    exact k_throw (pc := 12) t_11_12 (by omega) (by omega) (Nat.le_of_ble_eq_true rfl) (K _ R)
-- 13: RD place
noncomputable def F_13 (T : kT) (M : kM) : Option (Int32 × kM) :=
  some (gp M lRd 2, M)
set_option maxHeartbeats 1000000 in
theorem D_13 {G : kG} {d : Nat} {A : kLb → Nat} {T : kT} {M : kM} {h : kH} {z : (Int32 × kM)} (R : kRl A T M h) (hF : F_13 T  M = some z) : kRun G (d + 1) 13 [.ref (A lD)] h 0 0 (kPI A T z) := by
  refine ⟨⟨rfl, Nat.le_of_ble_eq_true rfl⟩, ?_⟩
  show kWP _ _ (kRun G (d + 0)) _ 0 [some (.ref (A lD))] [] _ _ _
  have K : (fun z : (Int32 × kM) => ∀ h1, kRl A T z.2 h1 → kPI A T z (.inl (some (.int z.1))) h1) z := fun _ q => ⟨rfl, q⟩
  unfold F_13 at hF
  refine k_aload_n (pc := 0) i_13_0 rfl rfl ?_
  refine k_getf (pc := 1) i_13_1 f_0_23 (rd_D R) rfl ?_
  refine k_getf (pc := 4) i_13_4 f_0_171 (rd_Rd R) rfl ?_
  obtain rfl := Option.some.inj hF
  exact k_ireturn (pc := 7) i_13_7 rfl rfl (K _ R)
-- 14: RD step
noncomputable def F_14_12 (T : kT) (M : kM) : Option ((Nat ⊕ Int32) × kM) :=
  some (.inl 0, M)
set_option maxHeartbeats 1000000 in
theorem W_14_12 {G : kG} {d : Nat} {A : kLb → Nat} {C : kCl} {P : kO → kH → Prop} {T : kT} {M : kM} {h : kH} {b0 b1 b2 : Option Value} {z : ((Nat ⊕ Int32) × kM)} {mc ms : Nat} (hmc : 1 ≤ mc) (hms : 6 ≤ ms) (hC : C = kRun G (d + 54)) (R : kRl A T M h) (K : (fun z : ((Nat ⊕ Int32) × kM) => ∀ h1, kRl A T z.2 h1 → P (Sum.elim (fun E => .inr E) (fun v => .inl (some (.int v))) z.1) h1) z) (hF : F_14_12 T  M = some z) : kWP G 14 C P 12 [b0, b1, b2] [] h mc ms := by
  unfold F_14_12 at hF
  obtain rfl := Option.some.inj hF
  exact k_throw (pc := 12) t_14_12 (by omega) (by omega) (Nat.le_of_ble_eq_true rfl) (K _ R)
noncomputable def F_14_74 (T : kT) (a2 : Int32) (M : kM) : Option ((Nat ⊕ Int32) × kM) :=
  some (.inr (a2), sq M lD 6 none)
set_option maxHeartbeats 1000000 in
theorem W_14_74 {G : kG} {d : Nat} {A : kLb → Nat} {C : kCl} {P : kO → kH → Prop} {T : kT} {M : kM} {h : kH} {a2 : Int32} {b1 : Option Value} {z : ((Nat ⊕ Int32) × kM)} {mc ms : Nat} (hmc : 1 ≤ mc) (hms : 6 ≤ ms) (hC : C = kRun G (d + 54)) (R : kRl A T M h) (K : (fun z : ((Nat ⊕ Int32) × kM) => ∀ h1, kRl A T z.2 h1 → P (Sum.elim (fun E => .inr E) (fun v => .inl (some (.int v))) z.1) h1) z) (hF : F_14_74 T a2 M = some z) : kWP G 14 C P 74 [some (.ref (A lD)), b1, some (.int a2)] [] h mc ms := by
  unfold F_14_74 at hF
  refine k_aload_n (pc := 74) i_14_74 rfl rfl ?_
  refine k_null (pc := 75) i_14_75 ?_
  refine k_putf (pc := 76) i_14_76 f_0_41 (rd_D R) (by decide +kernel) (Nat.le_of_ble_eq_true rfl) rfl rfl rfl (fun h e10 => ?_)
  replace R := kRl_sq (l := lD) (k := 6) (v := none) R rfl e10
  clear e10
  refine k_iload_n (pc := 79) i_14_79 rfl ?_
  obtain rfl := Option.some.inj hF
  exact k_ireturn (pc := 80) i_14_80 rfl rfl (K _ R)
noncomputable def F_14_65 (T : kT) (a2 : Int32) (M : kM) : Option ((Nat ⊕ Int32) × kM) :=
  if a2 = 0 then (F_14_74 T a2 M) else (if a2 = 3 then (F_14_74 T a2 M) else (some (.inr (a2), M)))
set_option maxHeartbeats 1000000 in
theorem W_14_65 {G : kG} {d : Nat} {A : kLb → Nat} {C : kCl} {P : kO → kH → Prop} {T : kT} {M : kM} {h : kH} {a2 : Int32} {b1 : Option Value} {z : ((Nat ⊕ Int32) × kM)} {mc ms : Nat} (hmc : 1 ≤ mc) (hms : 6 ≤ ms) (hC : C = kRun G (d + 54)) (R : kRl A T M h) (K : (fun z : ((Nat ⊕ Int32) × kM) => ∀ h1, kRl A T z.2 h1 → P (Sum.elim (fun E => .inr E) (fun v => .inl (some (.int v))) z.1) h1) z) (hF : F_14_65 T a2 M = some z) : kWP G 14 C P 65 [some (.ref (A lD)), b1, some (.int a2)] [] h mc ms := by
  unfold F_14_65 at hF
  refine k_iload_n (pc := 65) i_14_65 rfl ?_
  refine k_if_eq (pc := 66) (tgt := 74) i_14_66 (by decide) (fun c9 => ?_) (fun c9 => ?_)
  · rw [if_pos c9] at hF
    exact W_14_74 (d := d) hmc hms hC R K hF
  · rw [if_neg c9] at hF
    refine k_iload_n (pc := 69) i_14_69 rfl ?_
    refine k_iconst (pc := 70) (v := 3) i_14_70 (by decide) ?_
    refine k_icmp_ne (pc := 71) (tgt := 79) i_14_71 (by decide) (fun c10 => ?_) (fun c10 => ?_)
    · rw [if_neg c10] at hF
      refine k_iload_n (pc := 79) i_14_79 rfl ?_
      obtain rfl := Option.some.inj hF
      exact k_ireturn (pc := 80) i_14_80 rfl rfl (K _ R)
    · rw [if_pos c10] at hF
      exact W_14_74 (d := d) hmc hms hC R K hF
noncomputable def F_14 (T : kT) (a1 : Int32) (M : kM) : Option ((Nat ⊕ Int32) × kM) :=
  if a1 < 1 then (F_14_12 T  M) else (if a1 ≤ 500 then (kOpt (gq M lD 6) (some (.inl 1, M)) (fun j3 => kBd (F_47 T (some j3) a1 M) (fun r5 M6 => if r5 = 1 then (kBd (F_17 T (gq M6 lD 6) M6) (fun r9 M10 => F_14_65 T r5 M10)) else (F_14_65 T r5 M6)))) else (F_14_12 T  M))
set_option maxHeartbeats 1000000 in
theorem D_14 {G : kG} {d : Nat} {A : kLb → Nat} {T : kT} {M : kM} {h : kH} {a1 : Int32} {z : ((Nat ⊕ Int32) × kM)} {mc ms : Nat} (hmc : 1 ≤ mc) (hms : 6 ≤ ms) (R : kRl A T M h) (hF : F_14 T a1 M = some z) : kRun G (d + 55) 14 [.ref (A lD), .int a1] h mc ms (kPTI A T z) := by
  refine ⟨⟨rfl, Nat.le_of_ble_eq_true rfl⟩, ?_⟩
  show kWP _ _ (kRun G (d + 54)) _ 0 [some (.ref (A lD)), some (.int a1), none] [] _ _ _
  have K : (fun z : ((Nat ⊕ Int32) × kM) => ∀ h1, kRl A T z.2 h1 → kPTI A T z (Sum.elim (fun E => .inr E) (fun v => .inl (some (.int v))) z.1) h1) z := fun _ q => ⟨rfl, q⟩
  unfold F_14 at hF
  refine k_iload_n (pc := 0) i_14_0 rfl ?_
  refine k_iconst (pc := 1) (v := 1) i_14_1 (by decide) ?_
  refine k_icmp_lt (pc := 2) (tgt := 12) i_14_2 (by decide) (fun c1 => ?_) (fun c1 => ?_)
  · rw [if_pos c1] at hF
    exact W_14_12 (d := d) hmc hms rfl R K hF
  · rw [if_neg c1] at hF
    refine k_iload_n (pc := 5) i_14_5 rfl ?_
    refine k_sipush (pc := 6) (v := 500) i_14_6 (by decide) ?_
    refine k_icmp_le (pc := 9) (tgt := 22) i_14_9 (by decide) (fun c2 => ?_) (fun c2 => ?_)
    · rw [if_pos c2] at hF
      refine k_aload_n (pc := 22) i_14_22 rfl rfl ?_
      refine k_getf (pc := 23) i_14_23 f_0_41 (rd_D R) rfl ?_
      rcases kOpt_el hF with ⟨e4, hF⟩ | ⟨j3, e4, hF⟩
      · rw [e4]
        refine k_nonnullN (pc := 26) i_14_26 ?_
        obtain rfl := Option.some.inj hF
        exact k_throw (pc := 29) t_14_29 (by omega) (by omega) (Nat.le_of_ble_eq_true rfl) (K _ R)
      · rw [e4]
        refine k_nonnull (pc := 26) (tgt := 39) i_14_26 (by decide) ?_
        refine k_aload_n (pc := 39) i_14_39 rfl rfl ?_
        refine k_getf (pc := 40) i_14_40 f_0_30 (rd_D R) rfl ?_
        refine k_aload_n (pc := 43) i_14_43 rfl rfl ?_
        refine k_getf (pc := 44) i_14_44 f_0_41 (rd_D R) rfl ?_
        rw [e4]
        refine k_iload_n (pc := 47) i_14_47 rfl ?_
        obtain ⟨r5, M6, q7, hF⟩ := kBd_el hF
        refine kcv_I (pc := 48) (As := [.ref (A lRu), .ref (A (lTm j3)), .int a1]) (st := []) (A := A) (T := T) (r := r5) (M1 := M6) i_14_48 m_0_178 rfl rfl rfl rfl (rd_Ru R) rfl (Nat.le_of_ble_eq_true rfl) (D_47 R q7) (fun h R => ?_)
        refine k_istore_n (pc := 51) (lo2 := [some (.ref (A lD)), some (.int a1), some (.int r5)]) i_14_51 (Nat.le_of_ble_eq_true rfl) rfl ?_
        refine k_iload_n (pc := 52) i_14_52 rfl ?_
        refine k_iconst (pc := 53) (v := 1) i_14_53 (by decide) ?_
        refine k_icmp_ne (pc := 54) (tgt := 65) i_14_54 (by decide) (fun c8 => ?_) (fun c8 => ?_)
        · rw [if_neg c8] at hF
          exact W_14_65 (d := d) hmc hms rfl R K hF
        · rw [if_pos c8] at hF
          refine k_aload_n (pc := 57) i_14_57 rfl rfl ?_
          refine k_aload_n (pc := 58) i_14_58 rfl rfl ?_
          refine k_getf (pc := 59) i_14_59 f_0_41 (rd_D R) rfl ?_
          obtain ⟨r9, M10, q11, hF⟩ := kBd_el hF
          refine kcv_V (pc := 62) (As := [.ref (A lD), rTm A (gq M6 lD 6)]) (st := []) (A := A) (T := T) (r := r9) (M1 := M10) i_14_62 m_0_182 rfl rfl rfl rfl (rd_D R) rfl (Nat.le_of_ble_eq_true rfl) (D_17 R q11) (fun h R => ?_)
          exact W_14_65 (d := d) hmc hms rfl R K hF
    · rw [if_neg c2] at hF
      exact W_14_12 (d := d) hmc hms rfl R K hF
-- 15: RD column
noncomputable def F_15 (T : kT) (a1 : Int32) (M : kM) : Option (Int32 × kM) :=
  if a1 < 0 then (some (0, M)) else (if (gp M lD 5) ≤ a1 then (some (0, M)) else (kGx a1 12 (some (gp M lLa a1.toNatClampNeg, M))))
set_option maxHeartbeats 1000000 in
theorem D_15 {G : kG} {d : Nat} {A : kLb → Nat} {T : kT} {M : kM} {h : kH} {a1 : Int32} {z : (Int32 × kM)} (R : kRl A T M h) (hF : F_15 T a1 M = some z) : kRun G (d + 1) 15 [.ref (A lD), .int a1] h 0 0 (kPI A T z) := by
  refine ⟨⟨rfl, Nat.le_of_ble_eq_true rfl⟩, ?_⟩
  show kWP _ _ (kRun G (d + 0)) _ 0 [some (.ref (A lD)), some (.int a1)] [] _ _ _
  have K : (fun z : (Int32 × kM) => ∀ h1, kRl A T z.2 h1 → kPI A T z (.inl (some (.int z.1))) h1) z := fun _ q => ⟨rfl, q⟩
  unfold F_15 at hF
  refine k_iload_n (pc := 0) i_15_0 rfl ?_
  refine k_if_lt (pc := 1) (tgt := 21) i_15_1 (by decide) (fun c1 => ?_) (fun c1 => ?_)
  · rw [if_pos c1] at hF
    refine k_iconst (pc := 21) (v := 0) i_15_21 (by decide) ?_
    obtain rfl := Option.some.inj hF
    exact k_ireturn (pc := 22) i_15_22 rfl rfl (K _ R)
  · rw [if_neg c1] at hF
    refine k_iload_n (pc := 4) i_15_4 rfl ?_
    refine k_aload_n (pc := 5) i_15_5 rfl rfl ?_
    refine k_getf (pc := 6) i_15_6 f_0_37 (rd_D R) rfl ?_
    refine k_icmp_ge (pc := 9) (tgt := 21) i_15_9 (by decide) (fun c2 => ?_) (fun c2 => ?_)
    · rw [if_pos c2] at hF
      refine k_iconst (pc := 21) (v := 0) i_15_21 (by decide) ?_
      obtain rfl := Option.some.inj hF
      exact k_ireturn (pc := 22) i_15_22 rfl rfl (K _ R)
    · rw [if_neg c2] at hF
      refine k_aload_n (pc := 12) i_15_12 rfl rfl ?_
      refine k_getf (pc := 13) i_15_13 f_0_34 (rd_D R) rfl ?_
      refine k_iload_n (pc := 16) i_15_16 rfl ?_
      obtain ⟨g3, hF⟩ := kGx_el hF
      refine k_iald (pc := 17) i_15_17 (rd_La R) g3 ?_
      refine k_goto (pc := 18) (tgt := 22) i_15_18 (by decide) ?_
      obtain rfl := Option.some.inj hF
      exact k_ireturn (pc := 22) i_15_22 rfl rfl (K _ R)
-- 16: RD cost
noncomputable def F_16 (T : kT) (M : kM) : Option (Int32 × kM) :=
  some (gp M lRu 1, M)
set_option maxHeartbeats 1000000 in
theorem D_16 {G : kG} {d : Nat} {A : kLb → Nat} {T : kT} {M : kM} {h : kH} {z : (Int32 × kM)} (R : kRl A T M h) (hF : F_16 T  M = some z) : kRun G (d + 1) 16 [.ref (A lD)] h 0 0 (kPI A T z) := by
  refine ⟨⟨rfl, Nat.le_of_ble_eq_true rfl⟩, ?_⟩
  show kWP _ _ (kRun G (d + 0)) _ 0 [some (.ref (A lD))] [] _ _ _
  have K : (fun z : (Int32 × kM) => ∀ h1, kRl A T z.2 h1 → kPI A T z (.inl (some (.int z.1))) h1) z := fun _ q => ⟨rfl, q⟩
  unfold F_16 at hF
  refine k_aload_n (pc := 0) i_16_0 rfl rfl ?_
  refine k_getf (pc := 1) i_16_1 f_0_30 (rd_D R) rfl ?_
  refine k_getf (pc := 4) i_16_4 f_0_185 (rd_Ru R) rfl ?_
  obtain rfl := Option.some.inj hF
  exact k_ireturn (pc := 7) i_16_7 rfl rfl (K _ R)
