theorem kSm_r {β γ : Type} {x : Nat ⊕ γ} {f : Nat → Option β} {g : γ → Option β} {z : β} {v : γ} (e : x = .inr v) (hF : kSm x f g = some z) : g v = some z := by rw [e] at hF; exact hF
theorem kSm_l {β γ : Type} {x : Nat ⊕ γ} {f : Nat → Option β} {g : γ → Option β} {z : β} {v : Nat} (e : x = .inl v) (hF : kSm x f g = some z) : f v = some z := by rw [e] at hF; exact hF
theorem kG2 {p q : Prop} {h1 : Decidable p} {h2 : Decidable q} (h : (decide p && decide q) = true) : p ∧ q := by simpa using h
theorem kCc_le {T T1 T2 : kT} (l1 : kLe T T1) (l2 : kLe T1 T2) : kCc T T1 ≤ kCc T T2 := kCc_l (o := 0) l1 l2 (Nat.le_refl _)
theorem kCs_le {T T1 T2 : kT} (l1 : kLe T T1) (l2 : kLe T1 T2) : kCs T T1 ≤ kCs T T2 := kCs_l (o := 0) l1 l2 (Nat.le_refl _)
-- 84: addTable
noncomputable def F_84 (T : kT) (a1 : Int32) (M : kM) : Option (Int32 × kT × kM) :=
  if 6 ≤ (gp M lTs 1) then (some (gp M lTs 1, T, M)) else (kGd (kQb T M) (kCh T (T.1 + 1, T.2) (kGx (gp M lTs 1) 6 (some (gp M lTs 1, (T.1 + 1, T.2), sp (sq (nwTb M T.1 a1) lAl (gp M lTs 1).toNatClampNeg (some T.1)) lTs 1 ((gp (sq (nwTb M T.1 a1) lAl (gp M lTs 1).toNatClampNeg (some T.1)) lTs 1) + 1))))))
set_option maxHeartbeats 1000000 in
theorem D_84 {G : kG} {d : Nat} {A : kLb → Nat} {T : kT} {M : kM} {h : kH} {a1 : Int32} {z : (Int32 × kT × kM)} {mc ms : Nat} (hmc : kCc T z.2.1 + 0 ≤ mc) (hms : kCs T z.2.1 + 0 ≤ ms) (R : kRl A T M h) (hF : F_84 T a1 M = some z) : kRun G (d + 2) 84 [.ref (A lTs), .int a1] h mc ms (kPAI A T z) := by
  refine ⟨⟨rfl, Nat.le_of_ble_eq_true rfl⟩, ?_⟩
  show kWP _ _ (kRun G (d + 1)) _ 0 [some (.ref (A lTs)), some (.int a1), none] [] _ _ _
  have K : (fun z : (Int32 × kT × kM) => ∀ A' h1, kRl A' z.2.1 z.2.2 h1 → kExt T A A' → kPAI A T z (.inl (some (.int z.1))) h1) z := fun A2 _ q e => ⟨A2, q, e, rfl⟩
  unfold F_84 at hF
  refine k_aload_n (pc := 0) i_84_0 rfl rfl ?_
  refine k_getf (pc := 1) i_84_1 f_5_17 (rd_Ts R) rfl ?_
  refine k_istore_n (pc := 4) (lo2 := [some (.ref (A lTs)), some (.int a1), some (.int (gp M lTs 1))]) i_84_4 (Nat.le_of_ble_eq_true rfl) rfl ?_
  refine k_iload_n (pc := 5) i_84_5 rfl ?_
  refine k_bipush (pc := 6) (v := 6) i_84_6 (by decide) ?_
  refine k_icmp_ge (pc := 8) (tgt := 35) i_84_8 (by decide) (fun c1 => ?_) (fun c1 => ?_)
  · rw [if_pos c1] at hF
    refine k_iload_n (pc := 35) i_84_35 rfl ?_
    obtain rfl := Option.some.inj hF
    exact k_ireturn (pc := 36) i_84_36 rfl rfl (K _ _ R (fun _ _ => rfl))
  · rw [if_neg c1] at hF
    refine k_aload_n (pc := 11) i_84_11 rfl rfl ?_
    refine k_getf (pc := 12) i_84_12 f_5_11 (rd_Ts R) rfl ?_
    refine k_iload_n (pc := 15) i_84_15 rfl ?_
    obtain ⟨g2, hF⟩ := kGd_el hF
    obtain ⟨l3, l4, hF⟩ := kCh_el hF
    have b1 := kCc_l l3 l4 hmc
    have b2 := kCs_l l3 l4 hms
    rw [kCc_T] at b1
    rw [kCs_T] at b2
    refine k_new (pc := 16) i_84_16 n_5_9 rfl (by omega) (Nat.le_trans (Nat.le_of_ble_eq_true rfl) b2) (fun q5 h nq5 eq5 => ?_)
    have R9 := kRx_new (l := lTb T.1) (e := kOb 4 [.int 0, .null, .null, .null, .int 0, .int 0]) (show kRx A (kLv T) (ment A M) _ from R) nq5 eq5 (kLv_nT T)
    refine k_dup (pc := 19) i_84_19 rfl ?_
    refine k_iload_n (pc := 20) i_84_20 rfl ?_
    refine kcI (pc := 21) (As := [.ref q5, .int a1]) (st := [.ref q5, .int (gp M lTs 1), .ref (A lAl)]) (mc1 := 3) (ms1 := 486) i_84_21 m_5_21 rfl rfl rfl rfl (Nat.le_of_ble_eq_true rfl) (I_70 (d := d + 0) R9 (lup_self _ _ _) (lup_self _ _ _) (lup_self _ _ _) ((lup_ne (neF rfl)).trans (kLv_nT T)) ((lup_ne (neF rfl)).trans (kLv_nT T)) ((lup_ne (neF rfl)).trans (kLv_nT T)) a1) (fun E h1 z => by cases z.1) (by omega) (by show 486 ≤ ms - 6; omega) (fun v h hP => ?_)
    obtain ⟨e9, A, R, xA, rfl⟩ := newTb (kQb_iff.mp g2) hP
    cases e9
    replace hmc : kCc (T.1 + 1, T.2) z.2.1 + 0 ≤ mc - 1 - 3 := by have := kCc_r l3 l4 hmc; rw [kCc_T] at this; rw [Nat.sub_sub]; exact this
    replace hms : kCs (T.1 + 1, T.2) z.2.1 + 0 ≤ ms - 6 - 486 := by have := kCs_r l3 l4 hms; rw [kCs_T] at this; rw [Nat.sub_sub]; exact this
    rw [← xA lTs rfl]
    rw [← xA lAl rfl]
    replace K := fun A' h1 q x => K A' h1 q (kExt_tr l3 xA x)
    clear R9 b1 b2
    change kWP _ _ _ _ _ [some (.ref (A lTs)), some (.int a1), some (.int (gp M lTs 1))] [.ref (A (lTb T.1)), .int (gp M lTs 1), .ref (A lAl)] _ _ _
    obtain ⟨g6, hF⟩ := kGx_el hF
    refine k_aast (pc := 24) i_84_24 rfl (rd_Al R) (rd_Tb (i := T.1) R (kLv_newT T)) rfl g6 (fun h e7 => ?_)
    replace R := kRl_aB (i := (gp M lTs 1).toNatClampNeg) (n := T.1) R e7
    clear e7
    refine k_aload_n (pc := 25) i_84_25 rfl rfl ?_
    refine k_dup (pc := 26) i_84_26 rfl ?_
    refine k_getf (pc := 27) i_84_27 f_5_17 (rd_Ts R) rfl ?_
    refine k_iconst (pc := 30) (v := 1) i_84_30 (by decide) ?_
    refine k_iadd (pc := 31) i_84_31 ?_
    refine k_putf (pc := 32) i_84_32 f_5_17 (rd_Ts R) (by decide +kernel) (Nat.le_of_ble_eq_true rfl) rfl rfl rfl (fun h e8 => ?_)
    replace R := kRl_sp (l := lTs) (k := 1) (v := (gp (sq (nwTb M T.1 a1) lAl (gp M lTs 1).toNatClampNeg (some T.1)) lTs 1) + 1) R rfl e8
    clear e8
    refine k_iload_n (pc := 35) i_84_35 rfl ?_
    obtain rfl := Option.some.inj hF
    exact k_ireturn (pc := 36) i_84_36 rfl rfl (K _ _ R (fun _ _ => rfl))
-- 1: table
noncomputable def F_1_11 (T : kT) (M : kM) : Option ((Nat ⊕ Int32) × kT × kM) :=
  some (.inl 0, T, M)
set_option maxHeartbeats 1000000 in
theorem W_1_11 {G : kG} {d : Nat} {A : kLb → Nat} {C : kCl} {P : kO → kH → Prop} {T : kT} {M : kM} {h : kH} {b0 b1 : Option Value} {z : ((Nat ⊕ Int32) × kT × kM)} {mc ms : Nat} (hmc : kCc T z.2.1 + 1 ≤ mc) (hms : kCs T z.2.1 + 6 ≤ ms) (hC : C = kRun G (d + 2)) (R : kRl A T M h) (K : (fun z : ((Nat ⊕ Int32) × kT × kM) => ∀ A' h1, kRl A' z.2.1 z.2.2 h1 → kExt T A A' → P (Sum.elim (fun E => .inr E) (fun v => .inl (some (.int v))) z.1) h1) z) (hF : F_1_11 T  M = some z) : kWP G 1 C P 11 [b0, b1] [] h mc ms := by
  unfold F_1_11 at hF
  obtain rfl := Option.some.inj hF
  exact k_throw (pc := 11) t_1_11 (by omega) (by omega) (Nat.le_of_ble_eq_true rfl) (K _ _ R (fun _ _ => rfl))
noncomputable def F_1_43 (T : kT) (M : kM) : Option ((Nat ⊕ Int32) × kT × kM) :=
  some (.inl 1, T, M)
set_option maxHeartbeats 1000000 in
theorem W_1_43 {G : kG} {d : Nat} {A : kLb → Nat} {C : kCl} {P : kO → kH → Prop} {T : kT} {M : kM} {h : kH} {b0 b1 : Option Value} {z : ((Nat ⊕ Int32) × kT × kM)} {mc ms : Nat} (hmc : kCc T z.2.1 + 1 ≤ mc) (hms : kCs T z.2.1 + 6 ≤ ms) (hC : C = kRun G (d + 2)) (R : kRl A T M h) (K : (fun z : ((Nat ⊕ Int32) × kT × kM) => ∀ A' h1, kRl A' z.2.1 z.2.2 h1 → kExt T A A' → P (Sum.elim (fun E => .inr E) (fun v => .inl (some (.int v))) z.1) h1) z) (hF : F_1_43 T  M = some z) : kWP G 1 C P 43 [b0, b1] [] h mc ms := by
  unfold F_1_43 at hF
  obtain rfl := Option.some.inj hF
  exact k_throw (pc := 43) t_1_43 (by omega) (by omega) (Nat.le_of_ble_eq_true rfl) (K _ _ R (fun _ _ => rfl))
noncomputable def F_1 (T : kT) (a1 : Int32) (M : kM) : Option ((Nat ⊕ Int32) × kT × kM) :=
  if a1 < 1 then (F_1_11 T  M) else (if a1 ≤ 6 then (if 6 ≤ (gp M lTs 1) then (F_1_43 T  M) else (if (gp M lTs 2) = 0 then (kBt (F_84 T a1 (sq M lD 6 none)) (fun r6 T7 M8 => kCh T T7 (some (.inr (r6), T7, M8)))) else (F_1_43 T  M))) else (F_1_11 T  M))
set_option maxHeartbeats 1000000 in
theorem D_1 {G : kG} {d : Nat} {A : kLb → Nat} {T : kT} {M : kM} {h : kH} {a1 : Int32} {z : ((Nat ⊕ Int32) × kT × kM)} {mc ms : Nat} (hmc : kCc T z.2.1 + 1 ≤ mc) (hms : kCs T z.2.1 + 6 ≤ ms) (R : kRl A T M h) (hF : F_1 T a1 M = some z) : kRun G (d + 3) 1 [.ref (A lD), .int a1] h mc ms (kPATI A T z) := by
  refine ⟨⟨rfl, Nat.le_of_ble_eq_true rfl⟩, ?_⟩
  show kWP _ _ (kRun G (d + 2)) _ 0 [some (.ref (A lD)), some (.int a1)] [] _ _ _
  have K : (fun z : ((Nat ⊕ Int32) × kT × kM) => ∀ A' h1, kRl A' z.2.1 z.2.2 h1 → kExt T A A' → kPATI A T z (Sum.elim (fun E => .inr E) (fun v => .inl (some (.int v))) z.1) h1) z := fun A2 _ q e => ⟨A2, q, e, rfl⟩
  unfold F_1 at hF
  refine k_iload_n (pc := 0) i_1_0 rfl ?_
  refine k_iconst (pc := 1) (v := 1) i_1_1 (by decide) ?_
  refine k_icmp_lt (pc := 2) (tgt := 11) i_1_2 (by decide) (fun c1 => ?_) (fun c1 => ?_)
  · rw [if_pos c1] at hF
    exact W_1_11 (d := d) hmc hms rfl R K hF
  · rw [if_neg c1] at hF
    refine k_iload_n (pc := 5) i_1_5 rfl ?_
    refine k_bipush (pc := 6) (v := 6) i_1_6 (by decide) ?_
    refine k_icmp_le (pc := 8) (tgt := 21) i_1_8 (by decide) (fun c2 => ?_) (fun c2 => ?_)
    · rw [if_pos c2] at hF
      refine k_aload_n (pc := 21) i_1_21 rfl rfl ?_
      refine k_getf (pc := 22) i_1_22 f_0_10 (rd_D R) rfl ?_
      refine k_getf (pc := 25) i_1_25 f_0_52 (rd_Ts R) rfl ?_
      refine k_bipush (pc := 28) (v := 6) i_1_28 (by decide) ?_
      refine k_icmp_ge (pc := 30) (tgt := 43) i_1_30 (by decide) (fun c3 => ?_) (fun c3 => ?_)
      · rw [if_pos c3] at hF
        exact W_1_43 (d := d) hmc hms rfl R K hF
      · rw [if_neg c3] at hF
        refine k_aload_n (pc := 33) i_1_33 rfl rfl ?_
        refine k_getf (pc := 34) i_1_34 f_0_10 (rd_D R) rfl ?_
        refine k_getf (pc := 37) i_1_37 f_0_55 (rd_Ts R) rfl ?_
        refine k_if_eq (pc := 40) (tgt := 53) i_1_40 (by decide) (fun c4 => ?_) (fun c4 => ?_)
        · rw [if_pos c4] at hF
          refine k_aload_n (pc := 53) i_1_53 rfl rfl ?_
          refine k_null (pc := 54) i_1_54 ?_
          refine k_putf (pc := 55) i_1_55 f_0_41 (rd_D R) (by decide +kernel) (Nat.le_of_ble_eq_true rfl) rfl rfl rfl (fun h e5 => ?_)
          replace R := kRl_sq (l := lD) (k := 6) (v := none) R rfl e5
          clear e5
          refine k_aload_n (pc := 58) i_1_58 rfl rfl ?_
          refine k_getf (pc := 59) i_1_59 f_0_10 (rd_D R) rfl ?_
          refine k_iload_n (pc := 62) i_1_62 rfl ?_
          obtain ⟨r6, T7, M8, q9, hF⟩ := kBt_el hF
          obtain ⟨l10, l11, hF⟩ := kCh_el hF
          refine kca_I (pc := 63) (As := [.ref (A lTs), .int a1]) (st := []) (A := A) (T := T) (T1 := T7) (r := r6) (M1 := M8) i_1_63 m_0_64 rfl rfl rfl rfl (rd_Ts R) rfl (Nat.le_of_ble_eq_true rfl) (D_84 (Nat.le_refl _) (Nat.le_refl _) R q9) (kCc_l l10 l11 hmc) (kCs_l l10 l11 hms) (fun A h R xA => ?_)
          rw [← xA lD rfl]
          replace K := fun A' h1 q x => K A' h1 q (kExt_tr l10 xA x)
          replace hmc := kCc_r l10 l11 hmc
          replace hms := kCs_r l10 l11 hms
          obtain rfl := Option.some.inj hF
          exact k_ireturn (pc := 66) i_1_66 rfl rfl (K _ _ R (fun _ _ => rfl))
        · rw [if_neg c4] at hF
          exact W_1_43 (d := d) hmc hms rfl R K hF
    · rw [if_neg c2] at hF
      exact W_1_11 (d := d) hmc hms rfl R K hF
-- 37: nextTerm
noncomputable def F_37_46 (T : kT) (a1 : Int32) (M : kM) : Option (Option Nat × kT × kM) :=
  kGx (gp M lRd 5) 60 (kOpt (gq M lTe (gp M lRd 5).toNatClampNeg) none (fun j17 => kGd (kLv T (lTm j17)) (kBd (F_91 T j17 a1 (sp M lRd 5 ((gp M lRd 5) + 1))) (fun r20 M21 => some (some j17, T, M21)))))
set_option maxHeartbeats 1000000 in
theorem W_37_46 {G : kG} {d : Nat} {A : kLb → Nat} {C : kCl} {P : kO → kH → Prop} {T : kT} {M : kM} {h : kH} {a1 : Int32} {b2 : Option Value} {z : (Option Nat × kT × kM)} {mc ms : Nat} (hmc : kCc T z.2.1 + 0 ≤ mc) (hms : kCs T z.2.1 + 0 ≤ ms) (hC : C = kRun G (d + 2)) (R : kRl A T M h) (K : (fun z : (Option Nat × kT × kM) => ∀ A' h1, kRl A' z.2.1 z.2.2 h1 → kExt T A A' → P (.inl (some (rTm A' z.1))) h1) z) (hF : F_37_46 T a1 M = some z) : kWP G 37 C P 46 [some (.ref (A lRd)), some (.int a1), b2] [] h mc ms := by
  unfold F_37_46 at hF
  refine k_aload_n (pc := 46) i_37_46 rfl rfl ?_
  refine k_getf (pc := 47) i_37_47 f_2_17 (rd_Rd R) rfl ?_
  refine k_aload_n (pc := 50) i_37_50 rfl rfl ?_
  refine k_getf (pc := 51) i_37_51 f_2_31 (rd_Rd R) rfl ?_
  obtain ⟨g15, hF⟩ := kGx_el hF
  refine k_aald (pc := 54) i_37_54 rfl (rd_Te R) g15 ?_
  change kWP _ _ _ _ _ _ [rTm A (gq M lTe (gp M lRd 5).toNatClampNeg)] _ _ _
  refine k_astore_n (pc := 55) (lo2 := [some (.ref (A lRd)), some (.int a1), some (rTm A (gq M lTe (gp M lRd 5).toNatClampNeg))]) i_37_55 (Nat.le_of_ble_eq_true rfl) (rf_is _) rfl ?_
  refine k_aload_n (pc := 56) i_37_56 rfl rfl ?_
  refine k_dup (pc := 57) i_37_57 rfl ?_
  refine k_getf (pc := 58) i_37_58 f_2_31 (rd_Rd R) rfl ?_
  refine k_iconst (pc := 61) (v := 1) i_37_61 (by decide) ?_
  refine k_iadd (pc := 62) i_37_62 ?_
  refine k_putf (pc := 63) i_37_63 f_2_31 (rd_Rd R) (by decide +kernel) (Nat.le_of_ble_eq_true rfl) rfl rfl rfl (fun h e16 => ?_)
  replace R := kRl_sp (l := lRd) (k := 5) (v := (gp M lRd 5) + 1) R rfl e16
  clear e16
  refine k_aload_n (pc := 66) i_37_66 rfl (rf_is _) ?_
  refine k_iload_n (pc := 67) i_37_67 rfl ?_
  obtain ⟨j17, e18, hF⟩ := kOpt_el1 hF
  rw [e18]
  obtain ⟨g19, hF⟩ := kGd_el hF
  obtain ⟨r20, M21, q22, hF⟩ := kBd_el hF
  refine kcv_V (pc := 68) (As := [.ref (A (lTm j17)), .int a1]) (st := []) (A := A) (T := T) (r := r20) (M1 := M21) i_37_68 m_2_51 rfl rfl rfl rfl (rd_Tm (i := j17) R g19) rfl (Nat.le_of_ble_eq_true rfl) (hC ▸ D_91 R q22) (fun h R => ?_)
  refine k_aload_n (pc := 71) i_37_71 rfl rfl ?_
  obtain rfl := Option.some.inj hF
  exact k_areturn (pc := 72) i_37_72 rfl rfl (K _ _ R (fun _ _ => rfl))
noncomputable def F_37 (T : kT) (a1 : Int32) (M : kM) : Option (Option Nat × kT × kM) :=
  kBd (F_33 T  M) (fun r1 M2 => if r1 = 0 then (if (gp M2 lRd 5) < 60 then (kGx (gp M2 lRd 5) 60 (kOpt (gq M2 lTe (gp M2 lRd 5).toNatClampNeg) (kGd (kQb T M2) (kCh T (T.1, T.2 + 1) (kGx (gp M2 lRd 5) 60 (F_37_46 (T.1, T.2 + 1) a1 (sq (nwTm M2 T.2) lTe (gp M2 lRd 5).toNatClampNeg (some T.2)))))) (fun j7 => F_37_46 T a1 M2))) else (some (none, T, M2))) else (some (none, T, M2)))
set_option maxHeartbeats 1000000 in
theorem D_37 {G : kG} {d : Nat} {A : kLb → Nat} {T : kT} {M : kM} {h : kH} {a1 : Int32} {z : (Option Nat × kT × kM)} {mc ms : Nat} (hmc : kCc T z.2.1 + 0 ≤ mc) (hms : kCs T z.2.1 + 0 ≤ ms) (R : kRl A T M h) (hF : F_37 T a1 M = some z) : kRun G (d + 3) 37 [.ref (A lRd), .int a1] h mc ms (kPAM A T z) := by
  refine ⟨⟨rfl, Nat.le_of_ble_eq_true rfl⟩, ?_⟩
  show kWP _ _ (kRun G (d + 2)) _ 0 [some (.ref (A lRd)), some (.int a1), none] [] _ _ _
  have K : (fun z : (Option Nat × kT × kM) => ∀ A' h1, kRl A' z.2.1 z.2.2 h1 → kExt T A A' → kPAM A T z (.inl (some (rTm A' z.1))) h1) z := fun A2 _ q e => ⟨A2, q, e, rfl⟩
  unfold F_37 at hF
  refine k_aload_n (pc := 0) i_37_0 rfl rfl ?_
  obtain ⟨r1, M2, q3, hF⟩ := kBd_el hF
  refine kcv_I (pc := 1) (As := [.ref (A lRd)]) (st := []) (A := A) (T := T) (r := r1) (M1 := M2) i_37_1 m_2_42 rfl rfl rfl rfl (rd_Rd R) rfl (Nat.le_of_ble_eq_true rfl) (D_33 R q3) (fun h R => ?_)
  refine k_if_ne (pc := 4) (tgt := 16) i_37_4 (by decide) (fun c4 => ?_) (fun c4 => ?_)
  · rw [if_neg c4] at hF
    refine k_null (pc := 16) i_37_16 ?_
    obtain rfl := Option.some.inj hF
    exact k_areturn (pc := 17) i_37_17 rfl rfl (K _ _ R (fun _ _ => rfl))
  · rw [if_pos c4] at hF
    refine k_aload_n (pc := 7) i_37_7 rfl rfl ?_
    refine k_getf (pc := 8) i_37_8 f_2_31 (rd_Rd R) rfl ?_
    refine k_bipush (pc := 11) (v := 60) i_37_11 (by decide) ?_
    refine k_icmp_lt (pc := 13) (tgt := 18) i_37_13 (by decide) (fun c5 => ?_) (fun c5 => ?_)
    · rw [if_pos c5] at hF
      refine k_aload_n (pc := 18) i_37_18 rfl rfl ?_
      refine k_getf (pc := 19) i_37_19 f_2_17 (rd_Rd R) rfl ?_
      refine k_aload_n (pc := 22) i_37_22 rfl rfl ?_
      refine k_getf (pc := 23) i_37_23 f_2_31 (rd_Rd R) rfl ?_
      obtain ⟨g6, hF⟩ := kGx_el hF
      refine k_aald (pc := 26) i_37_26 rfl (rd_Te R) g6 ?_
      change kWP _ _ _ _ _ _ [rTm A (gq M2 lTe (gp M2 lRd 5).toNatClampNeg)] _ _ _
      rcases kOpt_el hF with ⟨e8, hF⟩ | ⟨j7, e8, hF⟩
      · rw [e8]
        refine k_nonnullN (pc := 27) i_37_27 ?_
        refine k_aload_n (pc := 30) i_37_30 rfl rfl ?_
        refine k_getf (pc := 31) i_37_31 f_2_17 (rd_Rd R) rfl ?_
        refine k_aload_n (pc := 34) i_37_34 rfl rfl ?_
        refine k_getf (pc := 35) i_37_35 f_2_31 (rd_Rd R) rfl ?_
        obtain ⟨g9, hF⟩ := kGd_el hF
        obtain ⟨l10, l11, hF⟩ := kCh_el hF
        have b1 := kCc_l l10 l11 hmc
        have b2 := kCs_l l10 l11 hms
        rw [kCc_M] at b1
        rw [kCs_M] at b2
        refine k_new (pc := 38) i_37_38 n_2_15 rfl (by omega) (Nat.le_trans (Nat.le_of_ble_eq_true rfl) b2) (fun q12 h nq12 eq12 => ?_)
        have R9 := kRx_new (l := lTm T.2) (e := kOb 6 [.int 0, .int 0, .int 0, .int 0, .int 0, .null, .null, .null, .null, .int 0, .null, .null, .int 0, .int 0, .int 0, .int 0]) (show kRx A (kLv T) (ment A M2) _ from R) nq12 eq12 (kLv_nM T)
        refine k_dup (pc := 41) i_37_41 rfl ?_
        refine kcI (pc := 42) (As := [.ref q12]) (st := [.ref q12, .int (gp M2 lRd 5), .ref (A lTe)]) (mc1 := 5) (ms1 := 1974) i_37_42 m_2_50 rfl rfl rfl rfl (Nat.le_of_ble_eq_true rfl) (I_90 (d := d + 0) R9 (lup_self _ _ _) (lup_self _ _ _) (lup_self _ _ _) ((lup_ne (neF rfl)).trans (kLv_nM T)) ((lup_ne (neF rfl)).trans (kLv_nM T)) ((lup_ne (neF rfl)).trans (kLv_nM T)) ((lup_ne (neF rfl)).trans (kLv_nM T)) ((lup_ne (neF rfl)).trans (kLv_nM T))) (fun E h1 z => by cases z.1) (by omega) (by show 1974 ≤ ms - 16; omega) (fun v h hP => ?_)
        obtain ⟨e9, A, R, xA, rfl⟩ := newTm (kQb_iff.mp g9) hP
        cases e9
        replace hmc : kCc (T.1, T.2 + 1) z.2.1 + 0 ≤ mc - 1 - 5 := by have := kCc_r l10 l11 hmc; rw [kCc_M] at this; rw [Nat.sub_sub]; exact this
        replace hms : kCs (T.1, T.2 + 1) z.2.1 + 0 ≤ ms - 16 - 1974 := by have := kCs_r l10 l11 hms; rw [kCs_M] at this; rw [Nat.sub_sub]; exact this
        rw [← xA lRd rfl]
        rw [← xA lTe rfl]
        replace K := fun A' h1 q x => K A' h1 q (kExt_tr l10 xA x)
        clear R9 b1 b2
        change kWP _ _ _ _ _ [some (.ref (A lRd)), some (.int a1), none] [.ref (A (lTm T.2)), .int (gp M2 lRd 5), .ref (A lTe)] _ _ _
        obtain ⟨g13, hF⟩ := kGx_el hF
        refine k_aast (pc := 45) i_37_45 rfl (rd_Te R) (rd_Tm (i := T.2) R (kLv_newM T)) rfl g13 (fun h e14 => ?_)
        replace R := kRl_aM (i := (gp M2 lRd 5).toNatClampNeg) (n := T.2) R e14
        clear e14
        exact W_37_46 (d := d) hmc hms rfl R K hF
      · rw [e8]
        refine k_nonnull (pc := 27) (tgt := 46) i_37_27 (by decide) ?_
        exact W_37_46 (d := d) hmc hms rfl R K hF
    · rw [if_neg c5] at hF
      refine k_null (pc := 16) i_37_16 ?_
      obtain rfl := Option.some.inj hF
      exact k_areturn (pc := 17) i_37_17 rfl rfl (K _ _ R (fun _ _ => rfl))
-- 38: readTerm
noncomputable def F_38_145 (T : kT) (ak : kT → Int32 → kM → Option (Option Nat × kT × kM)) (a3 : Int32) (M : kM) : Option (Option Nat × kT × kM) :=
  kBd (F_34 T a3 M) (fun r32 M33 => some (none, T, M33))
set_option maxHeartbeats 1000000 in
theorem W_38_145 {G : kG} {d : Nat} {A : kLb → Nat} {C : kCl} {P : kO → kH → Prop} {T : kT} {M : kM} {h : kH} {ak : kT → Int32 → kM → Option (Option Nat × kT × kM)} {a3 : Int32} {b1 b2 b4 b5 : Option Value} {z : (Option Nat × kT × kM)} {mc ms : Nat} (hmc : kCc T z.2.1 + 0 ≤ mc) (hms : kCs T z.2.1 + 0 ≤ ms)
    (hk : ∀ {A : kLb → Nat} {T : kT} {dp : Int32} {M : kM} {h : kH} {z : Option Nat × kT × kM} {mc ms : Nat}, kCc T z.2.1 + 0 ≤ mc → kCs T z.2.1 + 0 ≤ ms → kRl A T M h → ak T dp M = some z → kRun G (d + 8) 38 [.ref (A lRd), .ref (A lTs), .int dp] h mc ms (kPAM A T z)) (hC : C = kRun G (d + 8)) (R : kRl A T M h) (K : (fun z : (Option Nat × kT × kM) => ∀ A' h1, kRl A' z.2.1 z.2.2 h1 → kExt T A A' → P (.inl (some (rTm A' z.1))) h1) z) (hF : F_38_145 T ak a3 M = some z) : kWP G 38 C P 145 [some (.ref (A lRd)), b1, b2, some (.int a3), b4, b5] [] h mc ms := by
  unfold F_38_145 at hF
  refine k_aload_n (pc := 145) i_38_145 rfl rfl ?_
  refine k_iload_n (pc := 146) i_38_146 rfl ?_
  obtain ⟨r32, M33, q34, hF⟩ := kBd_el hF
  refine kcv_V (pc := 147) (As := [.ref (A lRd), .int a3]) (st := []) (A := A) (T := T) (r := r32) (M1 := M33) i_38_147 m_2_38 rfl rfl rfl rfl (rd_Rd R) rfl (Nat.le_of_ble_eq_true rfl) (hC ▸ D_34 R q34) (fun h R => ?_)
  refine k_null (pc := 150) i_38_150 ?_
  obtain rfl := Option.some.inj hF
  exact k_areturn (pc := 151) i_38_151 rfl rfl (K _ _ R (fun _ _ => rfl))
noncomputable def F_38_107 (T : kT) (ak : kT → Int32 → kM → Option (Option Nat × kT × kM)) (a3 : Int32) (a4 : Nat) (M : kM) : Option (Option Nat × kT × kM) :=
  kBd (F_33 T  M) (fun r22 M23 => if r22 = 0 then (kBd (F_41 T (some a4) M23) (fun r26 M27 => kGd (kLv T (lTm a4)) (if (gp (sp M27 (lTm a4) 9 r26) (lTm a4) 9) < 1 then (F_38_145 T ak a3 (sp M27 (lTm a4) 9 r26)) else (if (gp (sp M27 (lTm a4) 9 r26) (lTm a4) 9) ≤ 12 then (kBd (F_44 T (some a4) (sp M27 (lTm a4) 9 r26)) (fun r33 M34 => some (some a4, T, M34))) else (F_38_145 T ak a3 (sp M27 (lTm a4) 9 r26)))))) else (some (none, T, M23)))
set_option maxHeartbeats 1000000 in
theorem W_38_107 {G : kG} {d : Nat} {A : kLb → Nat} {C : kCl} {P : kO → kH → Prop} {T : kT} {M : kM} {h : kH} {ak : kT → Int32 → kM → Option (Option Nat × kT × kM)} {a3 : Int32} {a4 : Nat} {b1 b2 b5 : Option Value} {z : (Option Nat × kT × kM)} {mc ms : Nat} (hmc : kCc T z.2.1 + 0 ≤ mc) (hms : kCs T z.2.1 + 0 ≤ ms)
    (hk : ∀ {A : kLb → Nat} {T : kT} {dp : Int32} {M : kM} {h : kH} {z : Option Nat × kT × kM} {mc ms : Nat}, kCc T z.2.1 + 0 ≤ mc → kCs T z.2.1 + 0 ≤ ms → kRl A T M h → ak T dp M = some z → kRun G (d + 8) 38 [.ref (A lRd), .ref (A lTs), .int dp] h mc ms (kPAM A T z)) (hC : C = kRun G (d + 8)) (R : kRl A T M h) (K : (fun z : (Option Nat × kT × kM) => ∀ A' h1, kRl A' z.2.1 z.2.2 h1 → kExt T A A' → P (.inl (some (rTm A' z.1))) h1) z) (hF : F_38_107 T ak a3 a4 M = some z) : kWP G 38 C P 107 [some (.ref (A lRd)), b1, b2, some (.int a3), some (.ref (A (lTm a4))), b5] [] h mc ms := by
  unfold F_38_107 at hF
  refine k_aload_n (pc := 107) i_38_107 rfl rfl ?_
  obtain ⟨r22, M23, q24, hF⟩ := kBd_el hF
  refine kcv_I (pc := 108) (As := [.ref (A lRd)]) (st := []) (A := A) (T := T) (r := r22) (M1 := M23) i_38_108 m_2_42 rfl rfl rfl rfl (rd_Rd R) rfl (Nat.le_of_ble_eq_true rfl) (hC ▸ D_33 R q24) (fun h R => ?_)
  refine k_if_eq (pc := 111) (tgt := 116) i_38_111 (by decide) (fun c25 => ?_) (fun c25 => ?_)
  · rw [if_pos c25] at hF
    refine k_aload (pc := 116) i_38_116 rfl rfl ?_
    refine k_aload (pc := 118) i_38_118 rfl rfl ?_
    obtain ⟨r26, M27, q28, hF⟩ := kBd_el hF
    refine kcs_I (pc := 120) (As := [.ref (A (lTm a4))]) (st := [.ref (A (lTm a4))]) (A := A) (T := T) (r := r26) (M1 := M27) i_38_120 m_2_80 rfl rfl rfl (Nat.le_of_ble_eq_true rfl) (hC ▸ D_41 R q28) (fun h R => ?_)
    obtain ⟨g29, hF⟩ := kGd_el hF
    refine k_putf (pc := 123) i_38_123 f_2_84 (rd_Tm (i := a4) R g29) (by decide +kernel) (Nat.le_of_ble_eq_true rfl) rfl rfl rfl (fun h e30 => ?_)
    replace R := kRl_sp (l := (lTm a4)) (k := 9) (v := r26) R g29 e30
    clear e30
    refine k_aload (pc := 126) i_38_126 rfl rfl ?_
    refine k_getf (pc := 128) i_38_128 f_2_84 (rd_Tm (i := a4) R g29) rfl ?_
    refine k_iconst (pc := 131) (v := 1) i_38_131 (by decide) ?_
    refine k_icmp_lt (pc := 132) (tgt := 145) i_38_132 (by decide) (fun c31 => ?_) (fun c31 => ?_)
    · rw [if_pos c31] at hF
      exact W_38_145 (d := d) hmc hms hk hC R K hF
    · rw [if_neg c31] at hF
      refine k_aload (pc := 135) i_38_135 rfl rfl ?_
      refine k_getf (pc := 137) i_38_137 f_2_84 (rd_Tm (i := a4) R g29) rfl ?_
      refine k_bipush (pc := 140) (v := 12) i_38_140 (by decide) ?_
      refine k_icmp_le (pc := 142) (tgt := 152) i_38_142 (by decide) (fun c32 => ?_) (fun c32 => ?_)
      · rw [if_pos c32] at hF
        refine k_aload (pc := 152) i_38_152 rfl rfl ?_
        obtain ⟨r33, M34, q35, hF⟩ := kBd_el hF
        refine kcs_V (pc := 154) (As := [.ref (A (lTm a4))]) (st := []) (A := A) (T := T) (r := r33) (M1 := M34) i_38_154 m_2_87 rfl rfl rfl (Nat.le_of_ble_eq_true rfl) (hC ▸ D_44 R q35) (fun h R => ?_)
        refine k_aload (pc := 157) i_38_157 rfl rfl ?_
        obtain rfl := Option.some.inj hF
        exact k_areturn (pc := 159) i_38_159 rfl rfl (K _ _ R (fun _ _ => rfl))
      · rw [if_neg c32] at hF
        exact W_38_145 (d := d) hmc hms hk hC R K hF
  · rw [if_neg c25] at hF
    refine k_null (pc := 114) i_38_114 ?_
    obtain rfl := Option.some.inj hF
    exact k_areturn (pc := 115) i_38_115 rfl rfl (K _ _ R (fun _ _ => rfl))
noncomputable def F_38_81 (T : kT) (ak : kT → Int32 → kM → Option (Option Nat × kT × kM)) (a2 : Int32) (a3 : Int32) (a4 : Nat) (a5 : Int32) (M : kM) : Option (Option Nat × kT × kM) :=
  if a5 < 2 then (F_38_107 T ak a3 a4 M) else (kBd (F_33 T  M) (fun r22 M23 => if r22 = 0 then (kGd (kLv T (lTm a4)) (kBt (ak T (a2 + 1) M23) (fun r27 T28 M29 => kCh T T28 (kGd (kLv T28 (lTm a4)) (F_38_107 T28 ak a3 a4 (sq M29 (lTm a4) 8 r27)))))) else (F_38_107 T ak a3 a4 M23)))
set_option maxHeartbeats 1000000 in
theorem W_38_81 {G : kG} {d : Nat} {A : kLb → Nat} {C : kCl} {P : kO → kH → Prop} {T : kT} {M : kM} {h : kH} {ak : kT → Int32 → kM → Option (Option Nat × kT × kM)} {a2 : Int32} {a3 : Int32} {a4 : Nat} {a5 : Int32} {z : (Option Nat × kT × kM)} {mc ms : Nat} (hmc : kCc T z.2.1 + 0 ≤ mc) (hms : kCs T z.2.1 + 0 ≤ ms)
    (hk : ∀ {A : kLb → Nat} {T : kT} {dp : Int32} {M : kM} {h : kH} {z : Option Nat × kT × kM} {mc ms : Nat}, kCc T z.2.1 + 0 ≤ mc → kCs T z.2.1 + 0 ≤ ms → kRl A T M h → ak T dp M = some z → kRun G (d + 8) 38 [.ref (A lRd), .ref (A lTs), .int dp] h mc ms (kPAM A T z)) (hC : C = kRun G (d + 8)) (R : kRl A T M h) (K : (fun z : (Option Nat × kT × kM) => ∀ A' h1, kRl A' z.2.1 z.2.2 h1 → kExt T A A' → P (.inl (some (rTm A' z.1))) h1) z) (hF : F_38_81 T ak a2 a3 a4 a5 M = some z) : kWP G 38 C P 81 [some (.ref (A lRd)), some (.ref (A lTs)), some (.int a2), some (.int a3), some (.ref (A (lTm a4))), some (.int a5)] [] h mc ms := by
  unfold F_38_81 at hF
  refine k_iload (pc := 81) i_38_81 rfl ?_
  refine k_iconst (pc := 83) (v := 2) i_38_83 (by decide) ?_
  refine k_icmp_lt (pc := 84) (tgt := 107) i_38_84 (by decide) (fun c21 => ?_) (fun c21 => ?_)
  · rw [if_pos c21] at hF
    exact W_38_107 (d := d) hmc hms hk hC R K hF
  · rw [if_neg c21] at hF
    refine k_aload_n (pc := 87) i_38_87 rfl rfl ?_
    obtain ⟨r22, M23, q24, hF⟩ := kBd_el hF
    refine kcv_I (pc := 88) (As := [.ref (A lRd)]) (st := []) (A := A) (T := T) (r := r22) (M1 := M23) i_38_88 m_2_42 rfl rfl rfl rfl (rd_Rd R) rfl (Nat.le_of_ble_eq_true rfl) (hC ▸ D_33 R q24) (fun h R => ?_)
    refine k_if_ne (pc := 91) (tgt := 107) i_38_91 (by decide) (fun c25 => ?_) (fun c25 => ?_)
    · rw [if_neg c25] at hF
      exact W_38_107 (d := d) hmc hms hk hC R K hF
    · rw [if_pos c25] at hF
      refine k_aload (pc := 94) i_38_94 rfl rfl ?_
      refine k_aload_n (pc := 96) i_38_96 rfl rfl ?_
      refine k_aload_n (pc := 97) i_38_97 rfl rfl ?_
      refine k_iload_n (pc := 98) i_38_98 rfl ?_
      refine k_iconst (pc := 99) (v := 1) i_38_99 (by decide) ?_
      refine k_iadd (pc := 100) i_38_100 ?_
      obtain ⟨g26, hF⟩ := kGd_el hF
      obtain ⟨r27, T28, M29, q30, hF⟩ := kBt_el hF
      obtain ⟨l31, l32, hF⟩ := kCh_el hF
      refine kca_M (pc := 101) (As := [.ref (A lRd), .ref (A lTs), .int (a2 + 1)]) (st := [.ref (A (lTm a4))]) (A := A) (T := T) (T1 := T28) (r := r27) (M1 := M29) i_38_101 m_2_34 rfl rfl rfl rfl (rd_Rd R) rfl (Nat.le_of_ble_eq_true rfl) (hC ▸ hk (Nat.le_refl _) (Nat.le_refl _) R q30) (kCc_l l31 l32 hmc) (kCs_l l31 l32 hms) (fun A h R xA => ?_)
      rw [← xA lRd rfl]
      rw [← xA lTs rfl]
      rw [← xA (lTm a4) g26]
      replace K := fun A' h1 q x => K A' h1 q (kExt_tr l31 xA x)
      replace hmc := kCc_r l31 l32 hmc
      replace hms := kCs_r l31 l32 hms
      obtain ⟨g33, hF⟩ := kGd_el hF
      refine k_putf (pc := 104) i_38_104 f_2_77 (rd_Tm (i := a4) R g33) (by decide +kernel) (Nat.le_of_ble_eq_true rfl) (nar_q _ _) (fit_q _ _) rfl (fun h e34 => ?_)
      replace R := kRl_sq (l := (lTm a4)) (k := 8) (v := r27) R g33 e34
      clear e34
      exact W_38_107 (d := d) hmc hms hk hC R K hF
noncomputable def F_38 (T : kT) (ak : kT → Int32 → kM → Option (Option Nat × kT × kM)) (a2 : Int32) (M : kM) : Option (Option Nat × kT × kM) :=
  if a2 < 10 then (kBd (F_36 T 0 10 M) (fun r2 M3 => kBt (F_37 T r2 M3) (fun r5 T6 M7 => kCh T T6 (kOpt r5 (some (none, T6, M7)) (fun j11 => kBd (F_40 T6 (some j11) M7) (fun r13 M14 => kGd (kLv T6 (lTm j11)) (kBd (F_39 T6 (gp M14 (lTm j11) 0) M14) (fun r17 M18 => if r17 < 1 then (F_38_81 T6 ak a2 (gp M lRd 3) j11 r17 M18) else (kBd (F_33 T6  M18) (fun r21 M22 => if r21 = 0 then (kBt (ak T6 (a2 + 1) M22) (fun r25 T26 M27 => kCh T6 T26 (kGd (kLv T26 (lTm j11)) (F_38_81 T26 ak a2 (gp M lRd 3) j11 r17 (sq M27 (lTm j11) 7 r25))))) else (F_38_81 T6 ak a2 (gp M lRd 3) j11 r17 M22))))))))))) else (kBd (F_34 T (gp M lRd 3) M) (fun r33 M34 => some (none, T, M34)))
set_option maxHeartbeats 1000000 in
theorem D_38 {G : kG} {d : Nat} {A : kLb → Nat} {T : kT} {M : kM} {h : kH} {ak : kT → Int32 → kM → Option (Option Nat × kT × kM)} {a2 : Int32} {z : (Option Nat × kT × kM)} {mc ms : Nat} (hmc : kCc T z.2.1 + 0 ≤ mc) (hms : kCs T z.2.1 + 0 ≤ ms)
    (hk : ∀ {A : kLb → Nat} {T : kT} {dp : Int32} {M : kM} {h : kH} {z : Option Nat × kT × kM} {mc ms : Nat}, kCc T z.2.1 + 0 ≤ mc → kCs T z.2.1 + 0 ≤ ms → kRl A T M h → ak T dp M = some z → kRun G (d + 8) 38 [.ref (A lRd), .ref (A lTs), .int dp] h mc ms (kPAM A T z)) (R : kRl A T M h) (hF : F_38 T ak a2 M = some z) : kRun G (d + 9) 38 [.ref (A lRd), .ref (A lTs), .int a2] h mc ms (kPAM A T z) := by
  refine ⟨⟨rfl, Nat.le_of_ble_eq_true rfl⟩, ?_⟩
  show kWP _ _ (kRun G (d + 8)) _ 0 [some (.ref (A lRd)), some (.ref (A lTs)), some (.int a2), none, none, none] [] _ _ _
  have K : (fun z : (Option Nat × kT × kM) => ∀ A' h1, kRl A' z.2.1 z.2.2 h1 → kExt T A A' → kPAM A T z (.inl (some (rTm A' z.1))) h1) z := fun A2 _ q e => ⟨A2, q, e, rfl⟩
  unfold F_38 at hF
  refine k_aload_n (pc := 0) i_38_0 rfl rfl ?_
  refine k_getf (pc := 1) i_38_1 f_2_28 (rd_Rd R) rfl ?_
  refine k_istore_n (pc := 4) (lo2 := [some (.ref (A lRd)), some (.ref (A lTs)), some (.int a2), some (.int (gp M lRd 3)), none, none]) i_38_4 (Nat.le_of_ble_eq_true rfl) rfl ?_
  refine k_iload_n (pc := 5) i_38_5 rfl ?_
  refine k_bipush (pc := 6) (v := 10) i_38_6 (by decide) ?_
  refine k_icmp_lt (pc := 8) (tgt := 18) i_38_8 (by decide) (fun c1 => ?_) (fun c1 => ?_)
  · rw [if_pos c1] at hF
    refine k_aload_n (pc := 18) i_38_18 rfl rfl ?_
    refine k_aload_n (pc := 19) i_38_19 rfl rfl ?_
    refine k_iconst (pc := 20) (v := 0) i_38_20 (by decide) ?_
    refine k_bipush (pc := 21) (v := 10) i_38_21 (by decide) ?_
    obtain ⟨r2, M3, q4, hF⟩ := kBd_el hF
    refine kcv_I (pc := 23) (As := [.ref (A lRd), .int 0, .int 10]) (st := [.ref (A lRd)]) (A := A) (T := T) (r := r2) (M1 := M3) i_38_23 m_2_54 rfl rfl rfl rfl (rd_Rd R) rfl (Nat.le_of_ble_eq_true rfl) (D_36 R q4) (fun h R => ?_)
    obtain ⟨r5, T6, M7, q8, hF⟩ := kBt_el hF
    obtain ⟨l9, l10, hF⟩ := kCh_el hF
    refine kca_M (pc := 26) (As := [.ref (A lRd), .int r2]) (st := []) (A := A) (T := T) (T1 := T6) (r := r5) (M1 := M7) i_38_26 m_2_58 rfl rfl rfl rfl (rd_Rd R) rfl (Nat.le_of_ble_eq_true rfl) (D_37 (Nat.le_refl _) (Nat.le_refl _) R q8) (kCc_l l9 l10 hmc) (kCs_l l9 l10 hms) (fun A h R xA => ?_)
    rw [← xA lRd rfl]
    rw [← xA lTs rfl]
    replace K := fun A' h1 q x => K A' h1 q (kExt_tr l9 xA x)
    replace hmc := kCc_r l9 l10 hmc
    replace hms := kCs_r l9 l10 hms
    refine k_astore (pc := 29) (lo2 := [some (.ref (A lRd)), some (.ref (A lTs)), some (.int a2), some (.int (gp M lRd 3)), some (rTm A r5), none]) i_38_29 (Nat.le_of_ble_eq_true rfl) (rf_is _) rfl ?_
    refine k_aload (pc := 31) i_38_31 rfl (rf_is _) ?_
    rcases kOpt_el hF with ⟨rfl, hG⟩ | ⟨j11, rfl, hG⟩
    · replace hF := hG
      clear hG
      refine k_nonnullN (pc := 33) i_38_33 ?_
      refine k_null (pc := 36) i_38_36 ?_
      obtain rfl := Option.some.inj hF
      exact k_areturn (pc := 37) i_38_37 rfl rfl (K _ _ R (fun _ _ => rfl))
    · replace hF := hG
      clear hG
      refine k_nonnull (pc := 33) (tgt := 38) i_38_33 (by decide) ?_
      refine k_aload_n (pc := 38) i_38_38 rfl rfl ?_
      refine k_aload (pc := 39) i_38_39 rfl rfl ?_
      refine k_aload_n (pc := 41) i_38_41 rfl rfl ?_
      obtain ⟨r13, M14, q15, hF⟩ := kBd_el hF
      refine kcv_V (pc := 42) (As := [.ref (A lRd), .ref (A (lTm j11)), .ref (A lTs)]) (st := []) (A := A) (T := T6) (r := r13) (M1 := M14) i_38_42 m_2_62 rfl rfl rfl rfl (rd_Rd R) rfl (Nat.le_of_ble_eq_true rfl) (D_40 R q15) (fun h R => ?_)
      refine k_aload (pc := 45) i_38_45 rfl rfl ?_
      obtain ⟨g16, hF⟩ := kGd_el hF
      refine k_getf (pc := 47) i_38_47 f_2_66 (rd_Tm (i := j11) R g16) rfl ?_
      obtain ⟨r17, M18, q19, hF⟩ := kBd_el hF
      refine kcs_I (pc := 50) (As := [.int (gp M14 (lTm j11) 0)]) (st := []) (A := A) (T := T6) (r := r17) (M1 := M18) i_38_50 m_2_69 rfl rfl rfl (Nat.le_of_ble_eq_true rfl) (D_39 R q19) (fun h R => ?_)
      refine k_istore (pc := 53) (lo2 := [some (.ref (A lRd)), some (.ref (A lTs)), some (.int a2), some (.int (gp M lRd 3)), some (.ref (A (lTm j11))), some (.int r17)]) i_38_53 (Nat.le_of_ble_eq_true rfl) rfl ?_
      refine k_iload (pc := 55) i_38_55 rfl ?_
      refine k_iconst (pc := 57) (v := 1) i_38_57 (by decide) ?_
      refine k_icmp_lt (pc := 58) (tgt := 81) i_38_58 (by decide) (fun c20 => ?_) (fun c20 => ?_)
      · rw [if_pos c20] at hF
        exact W_38_81 (d := d) hmc hms hk rfl R K hF
      · rw [if_neg c20] at hF
        refine k_aload_n (pc := 61) i_38_61 rfl rfl ?_
        obtain ⟨r21, M22, q23, hF⟩ := kBd_el hF
        refine kcv_I (pc := 62) (As := [.ref (A lRd)]) (st := []) (A := A) (T := T6) (r := r21) (M1 := M22) i_38_62 m_2_42 rfl rfl rfl rfl (rd_Rd R) rfl (Nat.le_of_ble_eq_true rfl) (D_33 R q23) (fun h R => ?_)
        refine k_if_ne (pc := 65) (tgt := 81) i_38_65 (by decide) (fun c24 => ?_) (fun c24 => ?_)
        · rw [if_neg c24] at hF
          exact W_38_81 (d := d) hmc hms hk rfl R K hF
        · rw [if_pos c24] at hF
          refine k_aload (pc := 68) i_38_68 rfl rfl ?_
          refine k_aload_n (pc := 70) i_38_70 rfl rfl ?_
          refine k_aload_n (pc := 71) i_38_71 rfl rfl ?_
          refine k_iload_n (pc := 72) i_38_72 rfl ?_
          refine k_iconst (pc := 73) (v := 1) i_38_73 (by decide) ?_
          refine k_iadd (pc := 74) i_38_74 ?_
          obtain ⟨r25, T26, M27, q28, hF⟩ := kBt_el hF
          obtain ⟨l29, l30, hF⟩ := kCh_el hF
          refine kca_M (pc := 75) (As := [.ref (A lRd), .ref (A lTs), .int (a2 + 1)]) (st := [.ref (A (lTm j11))]) (A := A) (T := T6) (T1 := T26) (r := r25) (M1 := M27) i_38_75 m_2_34 rfl rfl rfl rfl (rd_Rd R) rfl (Nat.le_of_ble_eq_true rfl) (hk (Nat.le_refl _) (Nat.le_refl _) R q28) (kCc_l l29 l30 hmc) (kCs_l l29 l30 hms) (fun A h R xA => ?_)
          rw [← xA lRd rfl]
          rw [← xA lTs rfl]
          rw [← xA (lTm j11) g16]
          replace K := fun A' h1 q x => K A' h1 q (kExt_tr l29 xA x)
          replace hmc := kCc_r l29 l30 hmc
          replace hms := kCs_r l29 l30 hms
          obtain ⟨g31, hF⟩ := kGd_el hF
          refine k_putf (pc := 78) i_38_78 f_2_73 (rd_Tm (i := j11) R g31) (by decide +kernel) (Nat.le_of_ble_eq_true rfl) (nar_q _ _) (fit_q _ _) rfl (fun h e32 => ?_)
          replace R := kRl_sq (l := (lTm j11)) (k := 7) (v := r25) R g31 e32
          clear e32
          exact W_38_81 (d := d) hmc hms hk rfl R K hF
  · rw [if_neg c1] at hF
    refine k_aload_n (pc := 11) i_38_11 rfl rfl ?_
    refine k_iload_n (pc := 12) i_38_12 rfl ?_
    obtain ⟨r33, M34, q35, hF⟩ := kBd_el hF
    refine kcv_V (pc := 13) (As := [.ref (A lRd), .int (gp M lRd 3)]) (st := []) (A := A) (T := T) (r := r33) (M1 := M34) i_38_13 m_2_38 rfl rfl rfl rfl (rd_Rd R) rfl (Nat.le_of_ble_eq_true rfl) (D_34 R q35) (fun h R => ?_)
    refine k_null (pc := 16) i_38_16 ?_
    obtain rfl := Option.some.inj hF
    exact k_areturn (pc := 17) i_38_17 rfl rfl (K _ _ R (fun _ _ => rfl))
noncomputable def F_38r (T : kT) (e : Nat) (dp : Int32) (M : kM) : Option (Option Nat × kT × kM) := match e with
  | 0 => none
  | e + 1 => F_38 T (fun T dp M => F_38r T e dp M) dp M
theorem D_38r {G : kG} : ∀ {e d : Nat} {A : kLb → Nat} {T : kT} {dp : Int32} {M : kM} {h : kH} {z : Option Nat × kT × kM} {mc ms : Nat}, kCc T z.2.1 + 0 ≤ mc → kCs T z.2.1 + 0 ≤ ms → kRl A T M h → F_38r T e dp M = some z → kRun G (d + (e + 8)) 38 [.ref (A lRd), .ref (A lTs), .int dp] h mc ms (kPAM A T z)
  | 0, _, _, _, _, _, _, _, _, _, _, _, _, hF => by cases hF
  | e + 1, d, A, T, dp, M, h, z, mc, ms, h1, h2, R, hF => by
    have := D_38 (G := G) (d := d + e) (ak := fun T dp M => F_38r T e dp M) h1 h2 (fun b1 b2 R2 h2 => by have := D_38r (G := G) (e := e) (d := d) b1 b2 R2 h2; rw [← Nat.add_assoc] at this; exact this) R hF
    rw [show d + (e + 1 + 8) = d + e + 9 by omega]
    exact this
-- 32: readQuery
noncomputable def F_32_41 (T : kT) (a2 : Option Nat) (M : kM) : Option (Option Nat × kT × kM) :=
  kBd (F_33 T  (sp M lRd 1 0)) (fun r12 M13 => if r12 = 0 then (some (a2, T, M13)) else (some (none, T, M13)))
set_option maxHeartbeats 1000000 in
theorem W_32_41 {G : kG} {d : Nat} {A : kLb → Nat} {C : kCl} {P : kO → kH → Prop} {T : kT} {M : kM} {h : kH} {a2 : Option Nat} {b1 : Option Value} {z : (Option Nat × kT × kM)} {mc ms : Nat} (hmc : kCc T z.2.1 + 0 ≤ mc) (hms : kCs T z.2.1 + 0 ≤ ms) (hC : C = kRun G (d + 20)) (R : kRl A T M h) (K : (fun z : (Option Nat × kT × kM) => ∀ A' h1, kRl A' z.2.1 z.2.2 h1 → kExt T A A' → P (.inl (some (rTm A' z.1))) h1) z) (hF : F_32_41 T a2 M = some z) : kWP G 32 C P 41 [some (.ref (A lRd)), b1, some (rTm A a2)] [] h mc ms := by
  unfold F_32_41 at hF
  refine k_aload_n (pc := 41) i_32_41 rfl rfl ?_
  refine k_iconst (pc := 42) (v := 0) i_32_42 (by decide) ?_
  refine k_putf (pc := 43) i_32_43 f_2_25 (rd_Rd R) (by decide +kernel) (Nat.le_of_ble_eq_true rfl) rfl rfl rfl (fun h e11 => ?_)
  replace R := kRl_sp (l := lRd) (k := 1) (v := 0) R rfl e11
  clear e11
  refine k_aload_n (pc := 46) i_32_46 rfl rfl ?_
  obtain ⟨r12, M13, q14, hF⟩ := kBd_el hF
  refine kcv_I (pc := 47) (As := [.ref (A lRd)]) (st := []) (A := A) (T := T) (r := r12) (M1 := M13) i_32_47 m_2_42 rfl rfl rfl rfl (rd_Rd R) rfl (Nat.le_of_ble_eq_true rfl) (hC ▸ D_33 R q14) (fun h R => ?_)
  refine k_if_eq (pc := 50) (tgt := 57) i_32_50 (by decide) (fun c15 => ?_) (fun c15 => ?_)
  · rw [if_pos c15] at hF
    refine k_aload_n (pc := 57) i_32_57 rfl (rf_is _) ?_
    obtain rfl := Option.some.inj hF
    exact k_areturn (pc := 58) i_32_58 rfl (rf_is _) (K _ _ R (fun _ _ => rfl))
  · rw [if_neg c15] at hF
    refine k_null (pc := 53) i_32_53 ?_
    refine k_goto (pc := 54) (tgt := 58) i_32_54 (by decide) ?_
    obtain rfl := Option.some.inj hF
    exact k_areturn (pc := 58) i_32_58 rfl rfl (K _ _ R (fun _ _ => rfl))
noncomputable def F_32 (T : kT) (M : kM) : Option (Option Nat × kT × kM) :=
  kBt (F_38r T 12 0 (sp (sp (sp M lRd 3 0) lRd 5 0) lRd 2 (-1))) (fun r4 T5 M6 => kCh T T5 (if (gp M6 lRd 1) ≤ (gp M6 lRd 3) then (F_32_41 T5 r4 M6) else (kBd (F_34 T5 (gp M6 lRd 3) M6) (fun r11 M12 => F_32_41 T5 r4 M12))))
set_option maxHeartbeats 1000000 in
theorem D_32 {G : kG} {d : Nat} {A : kLb → Nat} {T : kT} {M : kM} {h : kH} {z : (Option Nat × kT × kM)} {mc ms : Nat} (hmc : kCc T z.2.1 + 0 ≤ mc) (hms : kCs T z.2.1 + 0 ≤ ms) (R : kRl A T M h) (hF : F_32 T  M = some z) : kRun G (d + 21) 32 [.ref (A lRd), .ref (A lTs)] h mc ms (kPAM A T z) := by
  refine ⟨⟨rfl, Nat.le_of_ble_eq_true rfl⟩, ?_⟩
  show kWP _ _ (kRun G (d + 20)) _ 0 [some (.ref (A lRd)), some (.ref (A lTs)), none] [] _ _ _
  have K : (fun z : (Option Nat × kT × kM) => ∀ A' h1, kRl A' z.2.1 z.2.2 h1 → kExt T A A' → kPAM A T z (.inl (some (rTm A' z.1))) h1) z := fun A2 _ q e => ⟨A2, q, e, rfl⟩
  unfold F_32 at hF
  refine k_aload_n (pc := 0) i_32_0 rfl rfl ?_
  refine k_iconst (pc := 1) (v := 0) i_32_1 (by decide) ?_
  refine k_putf (pc := 2) i_32_2 f_2_28 (rd_Rd R) (by decide +kernel) (Nat.le_of_ble_eq_true rfl) rfl rfl rfl (fun h e1 => ?_)
  replace R := kRl_sp (l := lRd) (k := 3) (v := 0) R rfl e1
  clear e1
  refine k_aload_n (pc := 5) i_32_5 rfl rfl ?_
  refine k_iconst (pc := 6) (v := 0) i_32_6 (by decide) ?_
  refine k_putf (pc := 7) i_32_7 f_2_31 (rd_Rd R) (by decide +kernel) (Nat.le_of_ble_eq_true rfl) rfl rfl rfl (fun h e2 => ?_)
  replace R := kRl_sp (l := lRd) (k := 5) (v := 0) R rfl e2
  clear e2
  refine k_aload_n (pc := 10) i_32_10 rfl rfl ?_
  refine k_iconst (pc := 11) (v := (-1)) i_32_11 (by decide) ?_
  refine k_putf (pc := 12) i_32_12 f_2_21 (rd_Rd R) (by decide +kernel) (Nat.le_of_ble_eq_true rfl) rfl rfl rfl (fun h e3 => ?_)
  replace R := kRl_sp (l := lRd) (k := 2) (v := (-1)) R rfl e3
  clear e3
  refine k_aload_n (pc := 15) i_32_15 rfl rfl ?_
  refine k_aload_n (pc := 16) i_32_16 rfl rfl ?_
  refine k_iconst (pc := 17) (v := 0) i_32_17 (by decide) ?_
  obtain ⟨r4, T5, M6, q7, hF⟩ := kBt_el hF
  obtain ⟨l8, l9, hF⟩ := kCh_el hF
  refine kca_M (pc := 18) (As := [.ref (A lRd), .ref (A lTs), .int 0]) (st := []) (A := A) (T := T) (T1 := T5) (r := r4) (M1 := M6) i_32_18 m_2_34 rfl rfl rfl rfl (rd_Rd R) rfl (Nat.le_of_ble_eq_true rfl) (D_38r (e := 12) (Nat.le_refl _) (Nat.le_refl _) R q7) (kCc_l l8 l9 hmc) (kCs_l l8 l9 hms) (fun A h R xA => ?_)
  rw [← xA lRd rfl]
  rw [← xA lTs rfl]
  replace K := fun A' h1 q x => K A' h1 q (kExt_tr l8 xA x)
  replace hmc := kCc_r l8 l9 hmc
  replace hms := kCs_r l8 l9 hms
  refine k_astore_n (pc := 21) (lo2 := [some (.ref (A lRd)), some (.ref (A lTs)), some (rTm A r4)]) i_32_21 (Nat.le_of_ble_eq_true rfl) (rf_is _) rfl ?_
  refine k_aload_n (pc := 22) i_32_22 rfl rfl ?_
  refine k_getf (pc := 23) i_32_23 f_2_28 (rd_Rd R) rfl ?_
  refine k_aload_n (pc := 26) i_32_26 rfl rfl ?_
  refine k_getf (pc := 27) i_32_27 f_2_25 (rd_Rd R) rfl ?_
  refine k_icmp_ge (pc := 30) (tgt := 41) i_32_30 (by decide) (fun c10 => ?_) (fun c10 => ?_)
  · rw [if_pos c10] at hF
    exact W_32_41 (d := d) hmc hms rfl R K hF
  · rw [if_neg c10] at hF
    refine k_aload_n (pc := 33) i_32_33 rfl rfl ?_
    refine k_aload_n (pc := 34) i_32_34 rfl rfl ?_
    refine k_getf (pc := 35) i_32_35 f_2_28 (rd_Rd R) rfl ?_
    obtain ⟨r11, M12, q13, hF⟩ := kBd_el hF
    refine kcv_V (pc := 38) (As := [.ref (A lRd), .int (gp M6 lRd 3)]) (st := []) (A := A) (T := T5) (r := r11) (M1 := M12) i_32_38 m_2_38 rfl rfl rfl rfl (rd_Rd R) rfl (Nat.le_of_ble_eq_true rfl) (D_34 R q13) (fun h R => ?_)
    exact W_32_41 (d := d) hmc hms rfl R K hF
-- 12: prepare
noncomputable def F_12 (T : kT) (M : kM) : Option ((Nat ⊕ Int32) × kT × kM) :=
  kBt (F_32 T  (sp M lD 5 0)) (fun r2 T3 M4 => kCh T T3 (kBd (F_46 T3 (gq (sq M4 lD 6 r2) lD 6) (sq M4 lD 6 r2)) (fun r9 M10 => kOpt (gq M10 lD 6) (some (.inl 0, T3, M10)) (fun j12 => kGd (kLv T3 (lTm j12)) (some (.inr (gp M10 (lTm j12) 9), T3, M10))))))
set_option maxHeartbeats 1000000 in
theorem D_12 {G : kG} {d : Nat} {A : kLb → Nat} {T : kT} {M : kM} {h : kH} {z : ((Nat ⊕ Int32) × kT × kM)} {mc ms : Nat} (hmc : kCc T z.2.1 + 1 ≤ mc) (hms : kCs T z.2.1 + 6 ≤ ms) (R : kRl A T M h) (hF : F_12 T  M = some z) : kRun G (d + 22) 12 [.ref (A lD)] h mc ms (kPATI A T z) := by
  refine ⟨⟨rfl, Nat.le_of_ble_eq_true rfl⟩, ?_⟩
  show kWP _ _ (kRun G (d + 21)) _ 0 [some (.ref (A lD))] [] _ _ _
  have K : (fun z : ((Nat ⊕ Int32) × kT × kM) => ∀ A' h1, kRl A' z.2.1 z.2.2 h1 → kExt T A A' → kPATI A T z (Sum.elim (fun E => .inr E) (fun v => .inl (some (.int v))) z.1) h1) z := fun A2 _ q e => ⟨A2, q, e, rfl⟩
  unfold F_12 at hF
  refine k_aload_n (pc := 0) i_12_0 rfl rfl ?_
  refine k_iconst (pc := 1) (v := 0) i_12_1 (by decide) ?_
  refine k_putf (pc := 2) i_12_2 f_0_37 (rd_D R) (by decide +kernel) (Nat.le_of_ble_eq_true rfl) rfl rfl rfl (fun h e1 => ?_)
  replace R := kRl_sp (l := lD) (k := 5) (v := 0) R rfl e1
  clear e1
  refine k_aload_n (pc := 5) i_12_5 rfl rfl ?_
  refine k_aload_n (pc := 6) i_12_6 rfl rfl ?_
  refine k_getf (pc := 7) i_12_7 f_0_23 (rd_D R) rfl ?_
  refine k_aload_n (pc := 10) i_12_10 rfl rfl ?_
  refine k_getf (pc := 11) i_12_11 f_0_10 (rd_D R) rfl ?_
  obtain ⟨r2, T3, M4, q5, hF⟩ := kBt_el hF
  obtain ⟨l6, l7, hF⟩ := kCh_el hF
  refine kca_M (pc := 14) (As := [.ref (A lRd), .ref (A lTs)]) (st := [.ref (A lD)]) (A := A) (T := T) (T1 := T3) (r := r2) (M1 := M4) i_12_14 m_0_156 rfl rfl rfl rfl (rd_Rd R) rfl (Nat.le_of_ble_eq_true rfl) (D_32 (Nat.le_refl _) (Nat.le_refl _) R q5) (kCc_l l6 l7 hmc) (kCs_l l6 l7 hms) (fun A h R xA => ?_)
  rw [← xA lD rfl]
  replace K := fun A' h1 q x => K A' h1 q (kExt_tr l6 xA x)
  replace hmc := kCc_r l6 l7 hmc
  replace hms := kCs_r l6 l7 hms
  refine k_putf (pc := 17) i_12_17 f_0_41 (rd_D R) (by decide +kernel) (Nat.le_of_ble_eq_true rfl) (nar_q _ _) (fit_q _ _) rfl (fun h e8 => ?_)
  replace R := kRl_sq (l := lD) (k := 6) (v := r2) R rfl e8
  clear e8
  refine k_aload_n (pc := 20) i_12_20 rfl rfl ?_
  refine k_getf (pc := 21) i_12_21 f_0_30 (rd_D R) rfl ?_
  refine k_aload_n (pc := 24) i_12_24 rfl rfl ?_
  refine k_getf (pc := 25) i_12_25 f_0_41 (rd_D R) rfl ?_
  obtain ⟨r9, M10, q11, hF⟩ := kBd_el hF
  refine kcv_V (pc := 28) (As := [.ref (A lRu), rTm A (gq (sq M4 lD 6 r2) lD 6)]) (st := []) (A := A) (T := T3) (r := r9) (M1 := M10) i_12_28 m_0_160 rfl rfl rfl rfl (rd_Ru R) rfl (Nat.le_of_ble_eq_true rfl) (D_46 R q11) (fun h R => ?_)
  refine k_aload_n (pc := 31) i_12_31 rfl rfl ?_
  refine k_getf (pc := 32) i_12_32 f_0_41 (rd_D R) rfl ?_
  rcases kOpt_el hF with ⟨e13, hF⟩ | ⟨j12, e13, hF⟩
  · rw [e13]
    refine k_nonnullN (pc := 35) i_12_35 ?_
    obtain rfl := Option.some.inj hF
    exact k_throw (pc := 38) t_12_38 (by omega) (by omega) (Nat.le_of_ble_eq_true rfl) (K _ _ R (fun _ _ => rfl))
  · rw [e13]
    refine k_nonnull (pc := 35) (tgt := 48) i_12_35 (by decide) ?_
    refine k_aload_n (pc := 48) i_12_48 rfl rfl ?_
    refine k_getf (pc := 49) i_12_49 f_0_41 (rd_D R) rfl ?_
    rw [e13]
    obtain ⟨g14, hF⟩ := kGd_el hF
    refine k_getf (pc := 52) i_12_52 f_0_166 (rd_Tm (i := j12) R g14) rfl ?_
    obtain rfl := Option.some.inj hF
    exact k_ireturn (pc := 55) i_12_55 rfl rfl (K _ _ R (fun _ _ => rfl))
