-- 48: RD$Runner beginAnew
noncomputable def F_48 (T : kT) (ak : Option Nat → Int32 → kM → Option (Unit × kM)) (a1 : Option Nat) (a2 : Int32) (M : kM) : Option (Unit × kM) :=
  kOpt a1 (some ((), M)) (fun j1 => if a2 < 10 then (kGd (kLv T (lTm j1)) (kBd (F_92 T j1 M) (fun r5 M6 => kBd (ak (gq M6 (lTm j1) 7) (a2 + 1) M6) (fun r8 M9 => kBd (ak (gq M9 (lTm j1) 8) (a2 + 1) M9) (fun r11 M12 => some ((), M12)))))) else (some ((), M)))
set_option maxHeartbeats 1000000 in
theorem D_48 {G : kG} {d : Nat} {A : kLb → Nat} {T : kT} {M : kM} {h : kH} {ak : Option Nat → Int32 → kM → Option (Unit × kM)} {a1 : Option Nat} {a2 : Int32} {z : (Unit × kM)}
    (hk : ∀ {t : Option Nat} {dp : Int32} {M : kM} {h : kH} {z : Unit × kM}, kRl A T M h → ak t dp M = some z → kRun G (d + 3) 48 [.ref (A lRu), rTm A t, .int dp] h 0 0 (kPV A T z)) (R : kRl A T M h) (hF : F_48 T ak a1 a2 M = some z) : kRun G (d + 4) 48 [.ref (A lRu), rTm A a1, .int a2] h 0 0 (kPV A T z) := by
  refine ⟨⟨by cases a1 <;> rfl, Nat.le_of_ble_eq_true rfl⟩, ?_⟩
  show kWP _ _ (kRun G (d + 3)) _ 0 [some (.ref (A lRu)), some (rTm A a1), some (.int a2)] [] _ _ _
  have K : (fun z : (Unit × kM) => ∀ h1, kRl A T z.2 h1 → kPV A T z (.inl none) h1) z := fun _ q => ⟨rfl, q⟩
  unfold F_48 at hF
  refine k_aload_n (pc := 0) i_48_0 rfl (rf_is _) ?_
  rcases kOpt_el hF with ⟨rfl, hG⟩ | ⟨j1, rfl, hG⟩
  · replace hF := hG
    clear hG
    refine k_isnullN (pc := 1) (tgt := 10) i_48_1 (by decide) ?_
    obtain rfl := Option.some.inj hF
    exact k_return (pc := 10) i_48_10 rfl (K _ R)
  · replace hF := hG
    clear hG
    refine k_isnull (pc := 1) i_48_1 ?_
    refine k_iload_n (pc := 4) i_48_4 rfl ?_
    refine k_bipush (pc := 5) (v := 10) i_48_5 (by decide) ?_
    refine k_icmp_lt (pc := 7) (tgt := 11) i_48_7 (by decide) (fun c3 => ?_) (fun c3 => ?_)
    · rw [if_pos c3] at hF
      refine k_aload_n (pc := 11) i_48_11 rfl rfl ?_
      obtain ⟨g4, hF⟩ := kGd_el hF
      obtain ⟨r5, M6, q7, hF⟩ := kBd_el hF
      refine kcv_V (pc := 12) (As := [.ref (A (lTm j1))]) (st := []) (A := A) (T := T) (r := r5) (M1 := M6) i_48_12 m_3_26 rfl rfl rfl rfl (rd_Tm (i := j1) R g4) rfl (Nat.le_of_ble_eq_true rfl) (D_92 R q7) (fun h R => ?_)
      refine k_aload_n (pc := 15) i_48_15 rfl rfl ?_
      refine k_aload_n (pc := 16) i_48_16 rfl rfl ?_
      refine k_getf (pc := 17) i_48_17 f_3_31 (rd_Tm (i := j1) R g4) rfl ?_
      refine k_iload_n (pc := 20) i_48_20 rfl ?_
      refine k_iconst (pc := 21) (v := 1) i_48_21 (by decide) ?_
      refine k_iadd (pc := 22) i_48_22 ?_
      obtain ⟨r8, M9, q10, hF⟩ := kBd_el hF
      refine kcv_V (pc := 23) (As := [.ref (A lRu), rTm A (gq M6 (lTm j1) 7), .int (a2 + 1)]) (st := []) (A := A) (T := T) (r := r8) (M1 := M9) i_48_23 m_3_15 rfl rfl rfl rfl (rd_Ru R) rfl (Nat.le_of_ble_eq_true rfl) (hk R q10) (fun h R => ?_)
      refine k_aload_n (pc := 26) i_48_26 rfl rfl ?_
      refine k_aload_n (pc := 27) i_48_27 rfl rfl ?_
      refine k_getf (pc := 28) i_48_28 f_3_35 (rd_Tm (i := j1) R g4) rfl ?_
      refine k_iload_n (pc := 31) i_48_31 rfl ?_
      refine k_iconst (pc := 32) (v := 1) i_48_32 (by decide) ?_
      refine k_iadd (pc := 33) i_48_33 ?_
      obtain ⟨r11, M12, q13, hF⟩ := kBd_el hF
      refine kcv_V (pc := 34) (As := [.ref (A lRu), rTm A (gq M9 (lTm j1) 8), .int (a2 + 1)]) (st := []) (A := A) (T := T) (r := r11) (M1 := M12) i_48_34 m_3_15 rfl rfl rfl rfl (rd_Ru R) rfl (Nat.le_of_ble_eq_true rfl) (hk R q13) (fun h R => ?_)
      obtain rfl := Option.some.inj hF
      exact k_return (pc := 37) i_48_37 rfl (K _ R)
    · rw [if_neg c3] at hF
      obtain rfl := Option.some.inj hF
      exact k_return (pc := 10) i_48_10 rfl (K _ R)
noncomputable def F_48r (T : kT) : Nat → Option Nat → Int32 → kM → Option (Unit × kM)
  | 0, _, _, _ => none
  | e + 1, t, dp, M => F_48 T (F_48r T e) t dp M
theorem D_48r {G : kG} {A : kLb → Nat} {T : kT} : ∀ {e d : Nat} {t : Option Nat} {dp : Int32} {M : kM} {h : kH} {z : Unit × kM}, kRl A T M h → F_48r T e t dp M = some z → kRun G (d + (e + 3)) 48 [.ref (A lRu), rTm A t, .int dp] h 0 0 (kPV A T z)
  | 0, _, _, _, _, _, _, _, hF => by cases hF
  | e + 1, d, t, dp, M, h, z, R, hF => by
    have := D_48 (G := G) (d := d + e) (ak := F_48r T e) (fun R2 h2 => by have := D_48r (G := G) (e := e) (d := d) R2 h2; rw [← Nat.add_assoc] at this; exact this) R hF
    rw [show d + (e + 1 + 3) = d + e + 4 by omega]
    exact this
-- 52: RD$Runner takeRow
noncomputable def F_52 (T : kT) (a1 : Option Nat) (a2 : Option Nat) (a3 : Int32) (M : kM) : Option (Int32 × kM) :=
  kOpt a2 none (fun j1 => kGd (kLv T (lTb j1)) (kBd (F_72 T j1 a3 M) (fun r3 M4 => if r3 = 0 then (some (0, M4)) else (if 1 ≤ (gp M4 lRu 0) then (kOpt a1 none (fun j10 => kGd (kLv T (lTm j10)) (kBd (F_74 T j1 a3 (lRw j10) (sp (sp M4 lRu 0 ((gp M4 lRu 0) - 1)) lRu 1 ((gp (sp M4 lRu 0 ((gp M4 lRu 0) - 1)) lRu 1) + 1))) (fun r12 M13 => some (1, sp M13 (lTm j10) 12 (a3 + 1)))))) else (some (2, M4))))))
set_option maxHeartbeats 1000000 in
theorem D_52 {G : kG} {d : Nat} {A : kLb → Nat} {T : kT} {M : kM} {h : kH} {a1 : Option Nat} {a2 : Option Nat} {a3 : Int32} {z : (Int32 × kM)} (R : kRl A T M h) (hF : F_52 T a1 a2 a3 M = some z) : kRun G (d + 3) 52 [.ref (A lRu), rTm A a1, rTb A a2, .int a3] h 0 0 (kPI A T z) := by
  refine ⟨⟨by cases a1 <;> cases a2 <;> rfl, Nat.le_of_ble_eq_true rfl⟩, ?_⟩
  show kWP _ _ (kRun G (d + 2)) _ 0 [some (.ref (A lRu)), some (rTm A a1), some (rTb A a2), some (.int a3)] [] _ _ _
  have K : (fun z : (Int32 × kM) => ∀ h1, kRl A T z.2 h1 → kPI A T z (.inl (some (.int z.1))) h1) z := fun _ q => ⟨rfl, q⟩
  unfold F_52 at hF
  refine k_aload_n (pc := 0) i_52_0 rfl (rf_is _) ?_
  refine k_iload_n (pc := 1) i_52_1 rfl ?_
  obtain ⟨j1, rfl, hG⟩ := kOpt_el1 hF
  replace hF := hG
  clear hG
  obtain ⟨g2, hF⟩ := kGd_el hF
  obtain ⟨r3, M4, q5, hF⟩ := kBd_el hF
  refine kcv_I (pc := 2) (As := [.ref (A (lTb j1)), .int a3]) (st := []) (A := A) (T := T) (r := r3) (M1 := M4) i_52_2 m_3_95 rfl rfl rfl rfl (rd_Tb (i := j1) R g2) rfl (Nat.le_of_ble_eq_true rfl) (D_72 R q5) (fun h R => ?_)
  refine k_if_ne (pc := 5) (tgt := 10) i_52_5 (by decide) (fun c6 => ?_) (fun c6 => ?_)
  · rw [if_neg c6] at hF
    refine k_aload_n (pc := 10) i_52_10 rfl rfl ?_
    refine k_getf (pc := 11) i_52_11 f_3_19 (rd_Ru R) rfl ?_
    refine k_iconst (pc := 14) (v := 1) i_52_14 (by decide) ?_
    refine k_icmp_ge (pc := 15) (tgt := 20) i_52_15 (by decide) (fun c7 => ?_) (fun c7 => ?_)
    · rw [if_pos c7] at hF
      refine k_aload_n (pc := 20) i_52_20 rfl rfl ?_
      refine k_dup (pc := 21) i_52_21 rfl ?_
      refine k_getf (pc := 22) i_52_22 f_3_19 (rd_Ru R) rfl ?_
      refine k_iconst (pc := 25) (v := 1) i_52_25 (by decide) ?_
      refine k_isub (pc := 26) i_52_26 ?_
      refine k_putf (pc := 27) i_52_27 f_3_19 (rd_Ru R) (by decide +kernel) (Nat.le_of_ble_eq_true rfl) rfl rfl rfl (fun h e8 => ?_)
      replace R := kRl_sp (l := lRu) (k := 0) (v := (gp M4 lRu 0) - 1) R rfl e8
      clear e8
      refine k_aload_n (pc := 30) i_52_30 rfl rfl ?_
      refine k_dup (pc := 31) i_52_31 rfl ?_
      refine k_getf (pc := 32) i_52_32 f_3_9 (rd_Ru R) rfl ?_
      refine k_iconst (pc := 35) (v := 1) i_52_35 (by decide) ?_
      refine k_iadd (pc := 36) i_52_36 ?_
      refine k_putf (pc := 37) i_52_37 f_3_9 (rd_Ru R) (by decide +kernel) (Nat.le_of_ble_eq_true rfl) rfl rfl rfl (fun h e9 => ?_)
      replace R := kRl_sp (l := lRu) (k := 1) (v := (gp (sp M4 lRu 0 ((gp M4 lRu 0) - 1)) lRu 1) + 1) R rfl e9
      clear e9
      refine k_aload_n (pc := 40) i_52_40 rfl rfl ?_
      refine k_iload_n (pc := 41) i_52_41 rfl ?_
      refine k_aload_n (pc := 42) i_52_42 rfl (rf_is _) ?_
      obtain ⟨j10, rfl, hG⟩ := kOpt_el1 hF
      replace hF := hG
      clear hG
      obtain ⟨g11, hF⟩ := kGd_el hF
      refine k_getf (pc := 43) i_52_43 f_3_99 (rd_Tm (i := j10) R g11) rfl ?_
      obtain ⟨r12, M13, q14, hF⟩ := kBd_el hF
      refine kcv_V (pc := 46) (As := [.ref (A (lTb j1)), .int a3, .ref (A (lRw j10))]) (st := []) (A := A) (T := T) (r := r12) (M1 := M13) i_52_46 m_3_103 rfl rfl rfl rfl (rd_Tb (i := j1) R g2) rfl (Nat.le_of_ble_eq_true rfl) (D_74 R q14) (fun h R => ?_)
      refine k_aload_n (pc := 49) i_52_49 rfl rfl ?_
      refine k_iload_n (pc := 50) i_52_50 rfl ?_
      refine k_iconst (pc := 51) (v := 1) i_52_51 (by decide) ?_
      refine k_iadd (pc := 52) i_52_52 ?_
      refine k_putf (pc := 53) i_52_53 f_3_76 (rd_Tm (i := j10) R g11) (by decide +kernel) (Nat.le_of_ble_eq_true rfl) rfl rfl rfl (fun h e15 => ?_)
      replace R := kRl_sp (l := (lTm j10)) (k := 12) (v := a3 + 1) R g11 e15
      clear e15
      refine k_iconst (pc := 56) (v := 1) i_52_56 (by decide) ?_
      obtain rfl := Option.some.inj hF
      exact k_ireturn (pc := 57) i_52_57 rfl rfl (K _ R)
    · rw [if_neg c7] at hF
      refine k_iconst (pc := 18) (v := 2) i_52_18 (by decide) ?_
      obtain rfl := Option.some.inj hF
      exact k_ireturn (pc := 19) i_52_19 rfl rfl (K _ R)
  · rw [if_pos c6] at hF
    refine k_iconst (pc := 8) (v := 0) i_52_8 (by decide) ?_
    obtain rfl := Option.some.inj hF
    exact k_ireturn (pc := 9) i_52_9 rfl rfl (K _ R)
-- 50: RD$Runner askScan
noncomputable def F_50 (T : kT) (a1 : Option Nat) (M : kM) : Option (Int32 × kM) :=
  kOpt a1 none (fun j1 => kGd (kLv T (lTm j1)) (kOpt (gq M (lTm j1) 6) (some (0, M)) (fun j3 => kBd (F_52 T (some j1) (some j3) (gp M (lTm j1) 12) M) (fun r5 M6 => some (r5, M6)))))
set_option maxHeartbeats 1000000 in
theorem D_50 {G : kG} {d : Nat} {A : kLb → Nat} {T : kT} {M : kM} {h : kH} {a1 : Option Nat} {z : (Int32 × kM)} (R : kRl A T M h) (hF : F_50 T a1 M = some z) : kRun G (d + 4) 50 [.ref (A lRu), rTm A a1] h 0 0 (kPI A T z) := by
  refine ⟨⟨by cases a1 <;> rfl, Nat.le_of_ble_eq_true rfl⟩, ?_⟩
  show kWP _ _ (kRun G (d + 3)) _ 0 [some (.ref (A lRu)), some (rTm A a1)] [] _ _ _
  have K : (fun z : (Int32 × kM) => ∀ h1, kRl A T z.2 h1 → kPI A T z (.inl (some (.int z.1))) h1) z := fun _ q => ⟨rfl, q⟩
  unfold F_50 at hF
  refine k_aload_n (pc := 0) i_50_0 rfl (rf_is _) ?_
  obtain ⟨j1, rfl, hG⟩ := kOpt_el1 hF
  replace hF := hG
  clear hG
  obtain ⟨g2, hF⟩ := kGd_el hF
  refine k_getf (pc := 1) i_50_1 f_3_45 (rd_Tm (i := j1) R g2) rfl ?_
  rcases kOpt_el hF with ⟨e4, hF⟩ | ⟨j3, e4, hF⟩
  · rw [e4]
    refine k_nonnullN (pc := 4) i_50_4 ?_
    refine k_iconst (pc := 7) (v := 0) i_50_7 (by decide) ?_
    refine k_goto (pc := 8) (tgt := 24) i_50_8 (by decide) ?_
    obtain rfl := Option.some.inj hF
    exact k_ireturn (pc := 24) i_50_24 rfl rfl (K _ R)
  · rw [e4]
    refine k_nonnull (pc := 4) (tgt := 11) i_50_4 (by decide) ?_
    refine k_aload_n (pc := 11) i_50_11 rfl rfl ?_
    refine k_aload_n (pc := 12) i_50_12 rfl rfl ?_
    refine k_aload_n (pc := 13) i_50_13 rfl rfl ?_
    refine k_getf (pc := 14) i_50_14 f_3_45 (rd_Tm (i := j1) R g2) rfl ?_
    rw [e4]
    refine k_aload_n (pc := 17) i_50_17 rfl rfl ?_
    refine k_getf (pc := 18) i_50_18 f_3_76 (rd_Tm (i := j1) R g2) rfl ?_
    obtain ⟨r5, M6, q7, hF⟩ := kBd_el hF
    refine kcv_I (pc := 21) (As := [.ref (A lRu), .ref (A (lTm j1)), .ref (A (lTb j3)), .int (gp M (lTm j1) 12)]) (st := []) (A := A) (T := T) (r := r5) (M1 := M6) i_50_21 m_3_79 rfl rfl rfl rfl (rd_Ru R) rfl (Nat.le_of_ble_eq_true rfl) (D_52 R q7) (fun h R => ?_)
    obtain rfl := Option.some.inj hF
    exact k_ireturn (pc := 24) i_50_24 rfl rfl (K _ R)
-- 51: RD$Runner askIndex
noncomputable def F_51 (T : kT) (a1 : Option Nat) (M : kM) : Option (Int32 × kM) :=
  kOpt a1 none (fun j1 => kGd (kLv T (lTm j1)) (kOpt (gq M (lTm j1) 6) (some (0, M)) (fun j3 => kGd (kLv T (lTb j3)) (kBd (F_77 T j3 (gp M (lTm j1) 12) (gp M (lTm j1) 1) (gp M (lTm j1) 4) M) (fun r6 M7 => kBd (F_52 T (some j1) (some j3) r6 M7) (fun r9 M10 => some (r9, M10)))))))
set_option maxHeartbeats 1000000 in
theorem D_51 {G : kG} {d : Nat} {A : kLb → Nat} {T : kT} {M : kM} {h : kH} {a1 : Option Nat} {z : (Int32 × kM)} (R : kRl A T M h) (hF : F_51 T a1 M = some z) : kRun G (d + 4) 51 [.ref (A lRu), rTm A a1] h 0 0 (kPI A T z) := by
  refine ⟨⟨by cases a1 <;> rfl, Nat.le_of_ble_eq_true rfl⟩, ?_⟩
  show kWP _ _ (kRun G (d + 3)) _ 0 [some (.ref (A lRu)), some (rTm A a1), none] [] _ _ _
  have K : (fun z : (Int32 × kM) => ∀ h1, kRl A T z.2 h1 → kPI A T z (.inl (some (.int z.1))) h1) z := fun _ q => ⟨rfl, q⟩
  unfold F_51 at hF
  refine k_aload_n (pc := 0) i_51_0 rfl (rf_is _) ?_
  obtain ⟨j1, rfl, hG⟩ := kOpt_el1 hF
  replace hF := hG
  clear hG
  obtain ⟨g2, hF⟩ := kGd_el hF
  refine k_getf (pc := 1) i_51_1 f_3_45 (rd_Tm (i := j1) R g2) rfl ?_
  refine k_astore_n (pc := 4) (lo2 := [some (.ref (A lRu)), some (.ref (A (lTm j1))), some (rTb A (gq M (lTm j1) 6))]) i_51_4 (Nat.le_of_ble_eq_true rfl) (rf_is _) rfl ?_
  refine k_aload_n (pc := 5) i_51_5 rfl (rf_is _) ?_
  rcases kOpt_el hF with ⟨e4, hF⟩ | ⟨j3, e4, hF⟩
  · rw [e4]
    refine k_nonnullN (pc := 6) i_51_6 ?_
    refine k_iconst (pc := 9) (v := 0) i_51_9 (by decide) ?_
    obtain rfl := Option.some.inj hF
    exact k_ireturn (pc := 10) i_51_10 rfl rfl (K _ R)
  · rw [e4]
    refine k_nonnull (pc := 6) (tgt := 11) i_51_6 (by decide) ?_
    refine k_aload_n (pc := 11) i_51_11 rfl rfl ?_
    refine k_aload_n (pc := 12) i_51_12 rfl rfl ?_
    refine k_aload_n (pc := 13) i_51_13 rfl rfl ?_
    refine k_aload_n (pc := 14) i_51_14 rfl rfl ?_
    refine k_aload_n (pc := 15) i_51_15 rfl rfl ?_
    refine k_getf (pc := 16) i_51_16 f_3_76 (rd_Tm (i := j1) R g2) rfl ?_
    refine k_aload_n (pc := 19) i_51_19 rfl rfl ?_
    refine k_getf (pc := 20) i_51_20 f_3_83 (rd_Tm (i := j1) R g2) rfl ?_
    refine k_aload_n (pc := 23) i_51_23 rfl rfl ?_
    refine k_getf (pc := 24) i_51_24 f_3_86 (rd_Tm (i := j1) R g2) rfl ?_
    obtain ⟨g5, hF⟩ := kGd_el hF
    obtain ⟨r6, M7, q8, hF⟩ := kBd_el hF
    refine kcv_I (pc := 27) (As := [.ref (A (lTb j3)), .int (gp M (lTm j1) 12), .int (gp M (lTm j1) 1), .int (gp M (lTm j1) 4)]) (st := [.ref (A (lTb j3)), .ref (A (lTm j1)), .ref (A lRu)]) (A := A) (T := T) (r := r6) (M1 := M7) i_51_27 m_3_89 rfl rfl rfl rfl (rd_Tb (i := j3) R g5) rfl (Nat.le_of_ble_eq_true rfl) (D_77 R q8) (fun h R => ?_)
    obtain ⟨r9, M10, q11, hF⟩ := kBd_el hF
    refine kcv_I (pc := 30) (As := [.ref (A lRu), .ref (A (lTm j1)), .ref (A (lTb j3)), .int r6]) (st := []) (A := A) (T := T) (r := r9) (M1 := M10) i_51_30 m_3_79 rfl rfl rfl rfl (rd_Ru R) rfl (Nat.le_of_ble_eq_true rfl) (D_52 R q11) (fun h R => ?_)
    obtain rfl := Option.some.inj hF
    exact k_ireturn (pc := 33) i_51_33 rfl rfl (K _ R)
-- 54: RD$Runner isSo
noncomputable def F_54 (T : kT) (a0 : Int32) (a1 : Int32) (a2 : Int32) (M : kM) : Option (Int32 × kM) :=
  if a1 = 0 then (if a0 = a2 then (some (1, M)) else (some (0, M))) else (if a1 = 1 then (if a0 = a2 then (some (0, M)) else (some (1, M))) else (if a1 = 2 then (if a2 ≤ a0 then (some (0, M)) else (some (1, M))) else (if a1 = 3 then (if a2 < a0 then (some (0, M)) else (some (1, M))) else (if a1 = 4 then (if a0 ≤ a2 then (some (0, M)) else (some (1, M))) else (if a0 < a2 then (some (0, M)) else (some (1, M)))))))
set_option maxHeartbeats 1000000 in
theorem D_54 {G : kG} {d : Nat} {A : kLb → Nat} {T : kT} {M : kM} {h : kH} {a0 : Int32} {a1 : Int32} {a2 : Int32} {z : (Int32 × kM)} (R : kRl A T M h) (hF : F_54 T a0 a1 a2 M = some z) : kRun G (d + 1) 54 [.int a0, .int a1, .int a2] h 0 0 (kPI A T z) := by
  refine ⟨⟨rfl, Nat.le_of_ble_eq_true rfl⟩, ?_⟩
  show kWP _ _ (kRun G (d + 0)) _ 0 [some (.int a0), some (.int a1), some (.int a2)] [] _ _ _
  have K : (fun z : (Int32 × kM) => ∀ h1, kRl A T z.2 h1 → kPI A T z (.inl (some (.int z.1))) h1) z := fun _ q => ⟨rfl, q⟩
  unfold F_54 at hF
  refine k_iload_n (pc := 0) i_54_0 rfl ?_
  by_cases c1 : a1 = 0
  · rw [if_pos c1] at hF
    rw [c1]
    refine k_tswIn (pc := 1) (tgt := 36) i_54_1 (by decide) (by decide) rfl (by decide) ?_
    refine k_iload_n (pc := 36) i_54_36 rfl ?_
    refine k_iload_n (pc := 37) i_54_37 rfl ?_
    refine k_icmp_ne (pc := 38) (tgt := 45) i_54_38 (by decide) (fun c2 => ?_) (fun c2 => ?_)
    · rw [if_neg c2] at hF
      refine k_iconst (pc := 45) (v := 0) i_54_45 (by decide) ?_
      obtain rfl := Option.some.inj hF
      exact k_ireturn (pc := 46) i_54_46 rfl rfl (K _ R)
    · rw [if_pos c2] at hF
      refine k_iconst (pc := 41) (v := 1) i_54_41 (by decide) ?_
      refine k_goto (pc := 42) (tgt := 46) i_54_42 (by decide) ?_
      obtain rfl := Option.some.inj hF
      exact k_ireturn (pc := 46) i_54_46 rfl rfl (K _ R)
  rw [if_neg c1] at hF
  by_cases c3 : a1 = 1
  · rw [if_pos c3] at hF
    rw [c3]
    refine k_tswIn (pc := 1) (tgt := 47) i_54_1 (by decide) (by decide) rfl (by decide) ?_
    refine k_iload_n (pc := 47) i_54_47 rfl ?_
    refine k_iload_n (pc := 48) i_54_48 rfl ?_
    refine k_icmp_eq (pc := 49) (tgt := 56) i_54_49 (by decide) (fun c4 => ?_) (fun c4 => ?_)
    · rw [if_pos c4] at hF
      refine k_iconst (pc := 56) (v := 0) i_54_56 (by decide) ?_
      obtain rfl := Option.some.inj hF
      exact k_ireturn (pc := 57) i_54_57 rfl rfl (K _ R)
    · rw [if_neg c4] at hF
      refine k_iconst (pc := 52) (v := 1) i_54_52 (by decide) ?_
      refine k_goto (pc := 53) (tgt := 57) i_54_53 (by decide) ?_
      obtain rfl := Option.some.inj hF
      exact k_ireturn (pc := 57) i_54_57 rfl rfl (K _ R)
  rw [if_neg c3] at hF
  by_cases c5 : a1 = 2
  · rw [if_pos c5] at hF
    rw [c5]
    refine k_tswIn (pc := 1) (tgt := 58) i_54_1 (by decide) (by decide) rfl (by decide) ?_
    refine k_iload_n (pc := 58) i_54_58 rfl ?_
    refine k_iload_n (pc := 59) i_54_59 rfl ?_
    refine k_icmp_ge (pc := 60) (tgt := 67) i_54_60 (by decide) (fun c6 => ?_) (fun c6 => ?_)
    · rw [if_pos c6] at hF
      refine k_iconst (pc := 67) (v := 0) i_54_67 (by decide) ?_
      obtain rfl := Option.some.inj hF
      exact k_ireturn (pc := 68) i_54_68 rfl rfl (K _ R)
    · rw [if_neg c6] at hF
      refine k_iconst (pc := 63) (v := 1) i_54_63 (by decide) ?_
      refine k_goto (pc := 64) (tgt := 68) i_54_64 (by decide) ?_
      obtain rfl := Option.some.inj hF
      exact k_ireturn (pc := 68) i_54_68 rfl rfl (K _ R)
  rw [if_neg c5] at hF
  by_cases c7 : a1 = 3
  · rw [if_pos c7] at hF
    rw [c7]
    refine k_tswIn (pc := 1) (tgt := 69) i_54_1 (by decide) (by decide) rfl (by decide) ?_
    refine k_iload_n (pc := 69) i_54_69 rfl ?_
    refine k_iload_n (pc := 70) i_54_70 rfl ?_
    refine k_icmp_gt (pc := 71) (tgt := 78) i_54_71 (by decide) (fun c8 => ?_) (fun c8 => ?_)
    · rw [if_pos c8] at hF
      refine k_iconst (pc := 78) (v := 0) i_54_78 (by decide) ?_
      obtain rfl := Option.some.inj hF
      exact k_ireturn (pc := 79) i_54_79 rfl rfl (K _ R)
    · rw [if_neg c8] at hF
      refine k_iconst (pc := 74) (v := 1) i_54_74 (by decide) ?_
      refine k_goto (pc := 75) (tgt := 79) i_54_75 (by decide) ?_
      obtain rfl := Option.some.inj hF
      exact k_ireturn (pc := 79) i_54_79 rfl rfl (K _ R)
  rw [if_neg c7] at hF
  by_cases c9 : a1 = 4
  · rw [if_pos c9] at hF
    rw [c9]
    refine k_tswIn (pc := 1) (tgt := 80) i_54_1 (by decide) (by decide) rfl (by decide) ?_
    refine k_iload_n (pc := 80) i_54_80 rfl ?_
    refine k_iload_n (pc := 81) i_54_81 rfl ?_
    refine k_icmp_le (pc := 82) (tgt := 89) i_54_82 (by decide) (fun c10 => ?_) (fun c10 => ?_)
    · rw [if_pos c10] at hF
      refine k_iconst (pc := 89) (v := 0) i_54_89 (by decide) ?_
      obtain rfl := Option.some.inj hF
      exact k_ireturn (pc := 90) i_54_90 rfl rfl (K _ R)
    · rw [if_neg c10] at hF
      refine k_iconst (pc := 85) (v := 1) i_54_85 (by decide) ?_
      refine k_goto (pc := 86) (tgt := 90) i_54_86 (by decide) ?_
      obtain rfl := Option.some.inj hF
      exact k_ireturn (pc := 90) i_54_90 rfl rfl (K _ R)
  rw [if_neg c9] at hF
  refine k_tswOut (pc := 1) (tgt := 91) i_54_1 (kSwOut (n := 5) (by decide) (fun k hk => match k, hk with | 0, _ => c1 | 1, _ => c3 | 2, _ => c5 | 3, _ => c7 | 4, _ => c9 | k + 5, hk => absurd hk (by omega))) (by decide) ?_
  refine k_iload_n (pc := 91) i_54_91 rfl ?_
  refine k_iload_n (pc := 92) i_54_92 rfl ?_
  refine k_icmp_lt (pc := 93) (tgt := 100) i_54_93 (by decide) (fun c11 => ?_) (fun c11 => ?_)
  · rw [if_pos c11] at hF
    refine k_iconst (pc := 100) (v := 0) i_54_100 (by decide) ?_
    obtain rfl := Option.some.inj hF
    exact k_ireturn (pc := 101) i_54_101 rfl rfl (K _ R)
  · rw [if_neg c11] at hF
    refine k_iconst (pc := 96) (v := 1) i_54_96 (by decide) ?_
    refine k_goto (pc := 97) (tgt := 101) i_54_97 (by decide) ?_
    obtain rfl := Option.some.inj hF
    exact k_ireturn (pc := 101) i_54_101 rfl rfl (K _ R)
-- 68: RD$Runner valueIn
noncomputable def F_68 (T : kT) (a0 : Option Nat) (a1 : Int32) (M : kM) : Option (Int32 × kM) :=
  kOpt a0 (some (0, M)) (fun j1 => if a1 < 0 then (some (0, M)) else (kGd (kLv T (lTm j1)) (if (gp M (lTm j1) 9) ≤ a1 then (some (0, M)) else (if 12 ≤ a1 then (some (0, M)) else (kGx a1 12 (some (gp M (lRw j1) a1.toNatClampNeg, M)))))))
set_option maxHeartbeats 1000000 in
theorem D_68 {G : kG} {d : Nat} {A : kLb → Nat} {T : kT} {M : kM} {h : kH} {a0 : Option Nat} {a1 : Int32} {z : (Int32 × kM)} (R : kRl A T M h) (hF : F_68 T a0 a1 M = some z) : kRun G (d + 1) 68 [rTm A a0, .int a1] h 0 0 (kPI A T z) := by
  refine ⟨⟨by cases a0 <;> rfl, Nat.le_of_ble_eq_true rfl⟩, ?_⟩
  show kWP _ _ (kRun G (d + 0)) _ 0 [some (rTm A a0), some (.int a1)] [] _ _ _
  have K : (fun z : (Int32 × kM) => ∀ h1, kRl A T z.2 h1 → kPI A T z (.inl (some (.int z.1))) h1) z := fun _ q => ⟨rfl, q⟩
  unfold F_68 at hF
  refine k_aload_n (pc := 0) i_68_0 rfl (rf_is _) ?_
  rcases kOpt_el hF with ⟨rfl, hG⟩ | ⟨j1, rfl, hG⟩
  · replace hF := hG
    clear hG
    refine k_isnullN (pc := 1) (tgt := 31) i_68_1 (by decide) ?_
    refine k_iconst (pc := 31) (v := 0) i_68_31 (by decide) ?_
    obtain rfl := Option.some.inj hF
    exact k_ireturn (pc := 32) i_68_32 rfl rfl (K _ R)
  · replace hF := hG
    clear hG
    refine k_isnull (pc := 1) i_68_1 ?_
    refine k_iload_n (pc := 4) i_68_4 rfl ?_
    refine k_if_lt (pc := 5) (tgt := 31) i_68_5 (by decide) (fun c3 => ?_) (fun c3 => ?_)
    · rw [if_pos c3] at hF
      refine k_iconst (pc := 31) (v := 0) i_68_31 (by decide) ?_
      obtain rfl := Option.some.inj hF
      exact k_ireturn (pc := 32) i_68_32 rfl rfl (K _ R)
    · rw [if_neg c3] at hF
      refine k_iload_n (pc := 8) i_68_8 rfl ?_
      refine k_aload_n (pc := 9) i_68_9 rfl rfl ?_
      obtain ⟨g4, hF⟩ := kGd_el hF
      refine k_getf (pc := 10) i_68_10 f_3_121 (rd_Tm (i := j1) R g4) rfl ?_
      refine k_icmp_ge (pc := 13) (tgt := 31) i_68_13 (by decide) (fun c5 => ?_) (fun c5 => ?_)
      · rw [if_pos c5] at hF
        refine k_iconst (pc := 31) (v := 0) i_68_31 (by decide) ?_
        obtain rfl := Option.some.inj hF
        exact k_ireturn (pc := 32) i_68_32 rfl rfl (K _ R)
      · rw [if_neg c5] at hF
        refine k_iload_n (pc := 16) i_68_16 rfl ?_
        refine k_bipush (pc := 17) (v := 12) i_68_17 (by decide) ?_
        refine k_icmp_ge (pc := 19) (tgt := 31) i_68_19 (by decide) (fun c6 => ?_) (fun c6 => ?_)
        · rw [if_pos c6] at hF
          refine k_iconst (pc := 31) (v := 0) i_68_31 (by decide) ?_
          obtain rfl := Option.some.inj hF
          exact k_ireturn (pc := 32) i_68_32 rfl rfl (K _ R)
        · rw [if_neg c6] at hF
          refine k_aload_n (pc := 22) i_68_22 rfl rfl ?_
          refine k_getf (pc := 23) i_68_23 f_3_99 (rd_Tm (i := j1) R g4) rfl ?_
          refine k_iload_n (pc := 26) i_68_26 rfl ?_
          obtain ⟨g7, hF⟩ := kGx_el hF
          refine k_iald (pc := 27) i_68_27 (rd_Rw (i := j1) R g4) g7 ?_
          refine k_goto (pc := 28) (tgt := 32) i_68_28 (by decide) ?_
          obtain rfl := Option.some.inj hF
          exact k_ireturn (pc := 32) i_68_32 rfl rfl (K _ R)
-- 57: RD$Runner isMatch
noncomputable def F_57 (T : kT) (a0 : Option Nat) (M : kM) : Option (Int32 × kM) :=
  kOpt a0 none (fun j1 => kGd (kLv T (lTm j1)) (if (gp M (lTm j1) 0) = 3 then (some (1, M)) else (kBd (F_68 T (gq M (lTm j1) 7) (gp M (lTm j1) 1) M) (fun r4 M5 => kBd (F_68 T (gq M5 (lTm j1) 8) (gp M5 (lTm j1) 2) M5) (fun r7 M8 => if r4 = r7 then (some (1, M8)) else (some (0, M8)))))))
set_option maxHeartbeats 1000000 in
theorem D_57 {G : kG} {d : Nat} {A : kLb → Nat} {T : kT} {M : kM} {h : kH} {a0 : Option Nat} {z : (Int32 × kM)} (R : kRl A T M h) (hF : F_57 T a0 M = some z) : kRun G (d + 2) 57 [rTm A a0] h 0 0 (kPI A T z) := by
  refine ⟨⟨by cases a0 <;> rfl, Nat.le_of_ble_eq_true rfl⟩, ?_⟩
  show kWP _ _ (kRun G (d + 1)) _ 0 [some (rTm A a0)] [] _ _ _
  have K : (fun z : (Int32 × kM) => ∀ h1, kRl A T z.2 h1 → kPI A T z (.inl (some (.int z.1))) h1) z := fun _ q => ⟨rfl, q⟩
  unfold F_57 at hF
  refine k_aload_n (pc := 0) i_57_0 rfl (rf_is _) ?_
  obtain ⟨j1, rfl, hG⟩ := kOpt_el1 hF
  replace hF := hG
  clear hG
  obtain ⟨g2, hF⟩ := kGd_el hF
  refine k_getf (pc := 1) i_57_1 f_3_38 (rd_Tm (i := j1) R g2) rfl ?_
  refine k_iconst (pc := 4) (v := 3) i_57_4 (by decide) ?_
  refine k_icmp_eq (pc := 5) (tgt := 33) i_57_5 (by decide) (fun c3 => ?_) (fun c3 => ?_)
  · rw [if_pos c3] at hF
    refine k_iconst (pc := 33) (v := 1) i_57_33 (by decide) ?_
    refine k_goto (pc := 34) (tgt := 38) i_57_34 (by decide) ?_
    obtain rfl := Option.some.inj hF
    exact k_ireturn (pc := 38) i_57_38 rfl rfl (K _ R)
  · rw [if_neg c3] at hF
    refine k_aload_n (pc := 8) i_57_8 rfl rfl ?_
    refine k_getf (pc := 9) i_57_9 f_3_31 (rd_Tm (i := j1) R g2) rfl ?_
    refine k_aload_n (pc := 12) i_57_12 rfl rfl ?_
    refine k_getf (pc := 13) i_57_13 f_3_83 (rd_Tm (i := j1) R g2) rfl ?_
    obtain ⟨r4, M5, q6, hF⟩ := kBd_el hF
    refine kcs_I (pc := 16) (As := [rTm A (gq M (lTm j1) 7), .int (gp M (lTm j1) 1)]) (st := []) (A := A) (T := T) (r := r4) (M1 := M5) i_57_16 m_3_108 rfl rfl rfl (Nat.le_of_ble_eq_true rfl) (D_68 R q6) (fun h R => ?_)
    refine k_aload_n (pc := 19) i_57_19 rfl rfl ?_
    refine k_getf (pc := 20) i_57_20 f_3_35 (rd_Tm (i := j1) R g2) rfl ?_
    refine k_aload_n (pc := 23) i_57_23 rfl rfl ?_
    refine k_getf (pc := 24) i_57_24 f_3_138 (rd_Tm (i := j1) R g2) rfl ?_
    obtain ⟨r7, M8, q9, hF⟩ := kBd_el hF
    refine kcs_I (pc := 27) (As := [rTm A (gq M5 (lTm j1) 8), .int (gp M5 (lTm j1) 2)]) (st := [.int r4]) (A := A) (T := T) (r := r7) (M1 := M8) i_57_27 m_3_108 rfl rfl rfl (Nat.le_of_ble_eq_true rfl) (D_68 R q9) (fun h R => ?_)
    refine k_icmp_ne (pc := 30) (tgt := 37) i_57_30 (by decide) (fun c10 => ?_) (fun c10 => ?_)
    · rw [if_neg c10] at hF
      refine k_iconst (pc := 37) (v := 0) i_57_37 (by decide) ?_
      obtain rfl := Option.some.inj hF
      exact k_ireturn (pc := 38) i_57_38 rfl rfl (K _ R)
    · rw [if_pos c10] at hF
      refine k_iconst (pc := 33) (v := 1) i_57_33 (by decide) ?_
      refine k_goto (pc := 34) (tgt := 38) i_57_34 (by decide) ?_
      obtain rfl := Option.some.inj hF
      exact k_ireturn (pc := 38) i_57_38 rfl rfl (K _ R)
-- 67: RD$Runner combined
noncomputable def F_67 (T : kT) (a0 : Int32) (a1 : Int32) (a2 : Int32) (M : kM) : Option (Int32 × kM) :=
  if a2 = 0 then (some (a0 + 1, M)) else (if a2 = 1 then (some (a0 + a1, M)) else (if a2 = 2 then (some ((if a1 < a0 then a1 else a0), M)) else (some ((if a0 < a1 then a1 else a0), M))))
set_option maxHeartbeats 1000000 in
theorem D_67 {G : kG} {d : Nat} {A : kLb → Nat} {T : kT} {M : kM} {h : kH} {a0 : Int32} {a1 : Int32} {a2 : Int32} {z : (Int32 × kM)} (R : kRl A T M h) (hF : F_67 T a0 a1 a2 M = some z) : kRun G (d + 1) 67 [.int a0, .int a1, .int a2] h 0 0 (kPI A T z) := by
  refine ⟨⟨rfl, Nat.le_of_ble_eq_true rfl⟩, ?_⟩
  show kWP _ _ (kRun G (d + 0)) _ 0 [some (.int a0), some (.int a1), some (.int a2)] [] _ _ _
  have K : (fun z : (Int32 × kM) => ∀ h1, kRl A T z.2 h1 → kPI A T z (.inl (some (.int z.1))) h1) z := fun _ q => ⟨rfl, q⟩
  unfold F_67 at hF
  refine k_iload_n (pc := 0) i_67_0 rfl ?_
  by_cases c1 : a2 = 0
  · rw [if_pos c1] at hF
    rw [c1]
    refine k_tswIn (pc := 1) (tgt := 28) i_67_1 (by decide) (by decide) rfl (by decide) ?_
    refine k_iload_n (pc := 28) i_67_28 rfl ?_
    refine k_iconst (pc := 29) (v := 1) i_67_29 (by decide) ?_
    refine k_iadd (pc := 30) i_67_30 ?_
    obtain rfl := Option.some.inj hF
    exact k_ireturn (pc := 31) i_67_31 rfl rfl (K _ R)
  rw [if_neg c1] at hF
  by_cases c2 : a2 = 1
  · rw [if_pos c2] at hF
    rw [c2]
    refine k_tswIn (pc := 1) (tgt := 32) i_67_1 (by decide) (by decide) rfl (by decide) ?_
    refine k_iload_n (pc := 32) i_67_32 rfl ?_
    refine k_iload_n (pc := 33) i_67_33 rfl ?_
    refine k_iadd (pc := 34) i_67_34 ?_
    obtain rfl := Option.some.inj hF
    exact k_ireturn (pc := 35) i_67_35 rfl rfl (K _ R)
  rw [if_neg c2] at hF
  by_cases c3 : a2 = 2
  · rw [if_pos c3] at hF
    rw [c3]
    refine k_tswIn (pc := 1) (tgt := 36) i_67_1 (by decide) (by decide) rfl (by decide) ?_
    refine k_iload_n (pc := 36) i_67_36 rfl ?_
    refine k_iload_n (pc := 37) i_67_37 rfl ?_
    refine k_mmin (pc := 38) i_67_38 x_3_196 (Nat.le_of_ble_eq_true rfl) ?_
    obtain rfl := Option.some.inj hF
    exact k_ireturn (pc := 41) i_67_41 rfl rfl (K _ R)
  rw [if_neg c3] at hF
  refine k_tswOut (pc := 1) (tgt := 42) i_67_1 (kSwOut (n := 3) (by decide) (fun k hk => match k, hk with | 0, _ => c1 | 1, _ => c2 | 2, _ => c3 | k + 3, hk => absurd hk (by omega))) (by decide) ?_
  refine k_iload_n (pc := 42) i_67_42 rfl ?_
  refine k_iload_n (pc := 43) i_67_43 rfl ?_
  refine k_mmax (pc := 44) i_67_44 x_3_201 (Nat.le_of_ble_eq_true rfl) ?_
  obtain rfl := Option.some.inj hF
  exact k_ireturn (pc := 47) i_67_47 rfl rfl (K _ R)
-- 66: RD$Runner keepInGroup
noncomputable def F_66_104 (T : kT) (a0 : Nat) (a1 : Nat) (s0 : Int32) (s1 : Int32) (s2 : Nat) (M : kM) : Option (Int32 × kM) :=
  kGd (kLv T (lTm s2)) (kGx s1 12 (kGd (kLv T (lTm a0)) (kGd (kLv T (lTm a1)) (kBd (F_24 T a1 (lRw a0) (sp M (lRw s2) s1.toNatClampNeg s0)) (fun r22 M23 => kGd (r22 == 0 || r22 == 1) (some (r22, M23)))))))
set_option maxHeartbeats 1000000 in
theorem W_66_104 {G : kG} {d : Nat} {A : kLb → Nat} {C : kCl} {P : kO → kH → Prop} {T : kT} {M : kM} {h : kH} {a0 : Nat} {a1 : Nat} {s0 : Int32} {s1 : Int32} {s2 : Nat} {b2 b3 b4 : Option Value} {z : (Int32 × kM)} (hC : C = kRun G (d + 1)) (R : kRl A T M h) (K : (fun z : (Int32 × kM) => ∀ h1, kRl A T z.2 h1 → P (.inl (some (.int z.1))) h1) z) (hF : F_66_104 T a0 a1 s0 s1 s2 M = some z) : kWP G 66 C P 104 [some (.ref (A (lTm a0))), some (.ref (A (lKp a1))), b2, b3, b4] [.int s0, .int s1, .ref (A (lRw s2))] h 0 0 := by
  unfold F_66_104 at hF
  obtain ⟨g17, hF⟩ := kGd_el hF
  obtain ⟨g18, hF⟩ := kGx_el hF
  refine k_iast (pc := 104) i_66_104 (rd_Rw (i := s2) R g17) g18 (fun h e19 => ?_)
  replace R := kRl_sp (l := (lRw s2)) (k := s1.toNatClampNeg) (v := s0) R g17 e19
  clear e19
  refine k_aload_n (pc := 105) i_66_105 rfl rfl ?_
  refine k_aload_n (pc := 106) i_66_106 rfl rfl ?_
  obtain ⟨g20, hF⟩ := kGd_el hF
  refine k_getf (pc := 107) i_66_107 f_3_99 (rd_Tm (i := a0) R g20) rfl ?_
  obtain ⟨g21, hF⟩ := kGd_el hF
  obtain ⟨r22, M23, q24, hF⟩ := kBd_el hF
  refine kcv_I (pc := 110) (As := [.ref (A (lKp a1)), .ref (A (lRw a0))]) (st := []) (A := A) (T := T) (r := r22) (M1 := M23) i_66_110 m_3_158 rfl rfl rfl rfl (rd_Kp (i := a1) R g21) rfl (Nat.le_of_ble_eq_true rfl) (hC ▸ D_24 R q24) (fun h R => ?_)
  obtain ⟨g25, hF⟩ := kGd_el hF
  obtain rfl := Option.some.inj hF
  exact k_ireturn (pc := 113) i_66_113 rfl (kz_nar g25) (K _ R)
noncomputable def F_66 (T : kT) (a0 : Option Nat) (M : kM) : Option (Int32 × kM) :=
  kOpt a0 none (fun j1 => kGd (kLv T (lTm j1)) (kBd (F_68 T (gq M (lTm j1) 7) (gp M (lTm j1) 1) M) (fun r3 M4 => kBd (F_68 T (gq M4 (lTm j1) 7) (gp M4 (lTm j1) 2) M4) (fun r6 M7 => kBd (F_29 T j1 r3 M7) (fun r9 M10 => if (gp M10 (lKp j1) 3) ≤ r9 then (if (gp M10 (lKp j1) 3) < 60 then (kGx 0 12 (if (gp (sp M10 (lRw j1) (0 : Int32).toNatClampNeg r3) (lTm j1) 3) = 0 then (F_66_104 T j1 j1 1 1 j1 (sp M10 (lRw j1) (0 : Int32).toNatClampNeg r3)) else (F_66_104 T j1 j1 r6 1 j1 (sp M10 (lRw j1) (0 : Int32).toNatClampNeg r3)))) else (some (0, M10))) else (kBd (F_21 T j1 r9 1 M10) (fun r17 M18 => kBd (F_67 T r17 r6 (gp M18 (lTm j1) 3) M18) (fun r20 M21 => kBd (F_22 T j1 r9 1 r20 M21) (fun r23 M24 => some (1, M24))))))))))
set_option maxHeartbeats 1000000 in
theorem D_66 {G : kG} {d : Nat} {A : kLb → Nat} {T : kT} {M : kM} {h : kH} {a0 : Option Nat} {z : (Int32 × kM)} (R : kRl A T M h) (hF : F_66 T a0 M = some z) : kRun G (d + 2) 66 [rTm A a0] h 0 0 (kPI A T z) := by
  refine ⟨⟨by cases a0 <;> rfl, Nat.le_of_ble_eq_true rfl⟩, ?_⟩
  show kWP _ _ (kRun G (d + 1)) _ 0 [some (rTm A a0), none, none, none, none] [] _ _ _
  have K : (fun z : (Int32 × kM) => ∀ h1, kRl A T z.2 h1 → kPI A T z (.inl (some (.int z.1))) h1) z := fun _ q => ⟨rfl, q⟩
  unfold F_66 at hF
  refine k_aload_n (pc := 0) i_66_0 rfl (rf_is _) ?_
  obtain ⟨j1, rfl, hG⟩ := kOpt_el1 hF
  replace hF := hG
  clear hG
  obtain ⟨g2, hF⟩ := kGd_el hF
  refine k_getf (pc := 1) i_66_1 f_3_148 (rd_Tm (i := j1) R g2) rfl ?_
  refine k_astore_n (pc := 4) (lo2 := [some (.ref (A (lTm j1))), some (.ref (A (lKp j1))), none, none, none]) i_66_4 (Nat.le_of_ble_eq_true rfl) rfl rfl ?_
  refine k_aload_n (pc := 5) i_66_5 rfl rfl ?_
  refine k_getf (pc := 6) i_66_6 f_3_31 (rd_Tm (i := j1) R g2) rfl ?_
  refine k_aload_n (pc := 9) i_66_9 rfl rfl ?_
  refine k_getf (pc := 10) i_66_10 f_3_83 (rd_Tm (i := j1) R g2) rfl ?_
  obtain ⟨r3, M4, q5, hF⟩ := kBd_el hF
  refine kcs_I (pc := 13) (As := [rTm A (gq M (lTm j1) 7), .int (gp M (lTm j1) 1)]) (st := []) (A := A) (T := T) (r := r3) (M1 := M4) i_66_13 m_3_108 rfl rfl rfl (Nat.le_of_ble_eq_true rfl) (D_68 R q5) (fun h R => ?_)
  refine k_istore_n (pc := 16) (lo2 := [some (.ref (A (lTm j1))), some (.ref (A (lKp j1))), some (.int r3), none, none]) i_66_16 (Nat.le_of_ble_eq_true rfl) rfl ?_
  refine k_aload_n (pc := 17) i_66_17 rfl rfl ?_
  refine k_getf (pc := 18) i_66_18 f_3_31 (rd_Tm (i := j1) R g2) rfl ?_
  refine k_aload_n (pc := 21) i_66_21 rfl rfl ?_
  refine k_getf (pc := 22) i_66_22 f_3_138 (rd_Tm (i := j1) R g2) rfl ?_
  obtain ⟨r6, M7, q8, hF⟩ := kBd_el hF
  refine kcs_I (pc := 25) (As := [rTm A (gq M4 (lTm j1) 7), .int (gp M4 (lTm j1) 2)]) (st := []) (A := A) (T := T) (r := r6) (M1 := M7) i_66_25 m_3_108 rfl rfl rfl (Nat.le_of_ble_eq_true rfl) (D_68 R q8) (fun h R => ?_)
  refine k_istore_n (pc := 28) (lo2 := [some (.ref (A (lTm j1))), some (.ref (A (lKp j1))), some (.int r3), some (.int r6), none]) i_66_28 (Nat.le_of_ble_eq_true rfl) rfl ?_
  refine k_aload_n (pc := 29) i_66_29 rfl rfl ?_
  refine k_iload_n (pc := 30) i_66_30 rfl ?_
  obtain ⟨r9, M10, q11, hF⟩ := kBd_el hF
  refine kcv_I (pc := 31) (As := [.ref (A (lKp j1)), .int r3]) (st := []) (A := A) (T := T) (r := r9) (M1 := M10) i_66_31 m_3_181 rfl rfl rfl rfl (rd_Kp (i := j1) R g2) rfl (Nat.le_of_ble_eq_true rfl) (D_29 R q11) (fun h R => ?_)
  refine k_istore (pc := 34) (lo2 := [some (.ref (A (lTm j1))), some (.ref (A (lKp j1))), some (.int r3), some (.int r6), some (.int r9)]) i_66_34 (Nat.le_of_ble_eq_true rfl) rfl ?_
  refine k_iload (pc := 36) i_66_36 rfl ?_
  refine k_aload_n (pc := 38) i_66_38 rfl rfl ?_
  refine k_getf (pc := 39) i_66_39 f_3_167 (rd_Kp (i := j1) R g2) rfl ?_
  refine k_icmp_ge (pc := 42) (tgt := 69) i_66_42 (by decide) (fun c12 => ?_) (fun c12 => ?_)
  · rw [if_pos c12] at hF
    refine k_aload_n (pc := 69) i_66_69 rfl rfl ?_
    refine k_getf (pc := 70) i_66_70 f_3_167 (rd_Kp (i := j1) R g2) rfl ?_
    refine k_bipush (pc := 73) (v := 60) i_66_73 (by decide) ?_
    refine k_icmp_lt (pc := 75) (tgt := 80) i_66_75 (by decide) (fun c13 => ?_) (fun c13 => ?_)
    · rw [if_pos c13] at hF
      refine k_aload_n (pc := 80) i_66_80 rfl rfl ?_
      refine k_getf (pc := 81) i_66_81 f_3_99 (rd_Tm (i := j1) R g2) rfl ?_
      refine k_iconst (pc := 84) (v := 0) i_66_84 (by decide) ?_
      refine k_iload_n (pc := 85) i_66_85 rfl ?_
      obtain ⟨g14, hF⟩ := kGx_el hF
      refine k_iast (pc := 86) i_66_86 (rd_Rw (i := j1) R g2) g14 (fun h e15 => ?_)
      replace R := kRl_sp (l := (lRw j1)) (k := (0 : Int32).toNatClampNeg) (v := r3) R g2 e15
      clear e15
      refine k_aload_n (pc := 87) i_66_87 rfl rfl ?_
      refine k_getf (pc := 88) i_66_88 f_3_99 (rd_Tm (i := j1) R g2) rfl ?_
      refine k_iconst (pc := 91) (v := 1) i_66_91 (by decide) ?_
      refine k_aload_n (pc := 92) i_66_92 rfl rfl ?_
      refine k_getf (pc := 93) i_66_93 f_3_111 (rd_Tm (i := j1) R g2) rfl ?_
      refine k_if_ne (pc := 96) (tgt := 103) i_66_96 (by decide) (fun c16 => ?_) (fun c16 => ?_)
      · rw [if_neg c16] at hF
        refine k_iload_n (pc := 103) i_66_103 rfl ?_
        exact W_66_104 (d := d) rfl R K hF
      · rw [if_pos c16] at hF
        refine k_iconst (pc := 99) (v := 1) i_66_99 (by decide) ?_
        refine k_goto (pc := 100) (tgt := 104) i_66_100 (by decide) ?_
        exact W_66_104 (d := d) rfl R K hF
    · rw [if_neg c13] at hF
      refine k_iconst (pc := 78) (v := 0) i_66_78 (by decide) ?_
      obtain rfl := Option.some.inj hF
      exact k_ireturn (pc := 79) i_66_79 rfl rfl (K _ R)
  · rw [if_neg c12] at hF
    refine k_aload_n (pc := 45) i_66_45 rfl rfl ?_
    refine k_iload (pc := 46) i_66_46 rfl ?_
    refine k_iconst (pc := 48) (v := 1) i_66_48 (by decide) ?_
    refine k_aload_n (pc := 49) i_66_49 rfl rfl ?_
    refine k_iload (pc := 50) i_66_50 rfl ?_
    refine k_iconst (pc := 52) (v := 1) i_66_52 (by decide) ?_
    obtain ⟨r17, M18, q19, hF⟩ := kBd_el hF
    refine kcv_I (pc := 53) (As := [.ref (A (lKp j1)), .int r9, .int 1]) (st := [.int 1, .int r9, .ref (A (lKp j1))]) (A := A) (T := T) (r := r17) (M1 := M18) i_66_53 m_3_185 rfl rfl rfl rfl (rd_Kp (i := j1) R g2) rfl (Nat.le_of_ble_eq_true rfl) (D_21 R q19) (fun h R => ?_)
    refine k_iload_n (pc := 56) i_66_56 rfl ?_
    refine k_aload_n (pc := 57) i_66_57 rfl rfl ?_
    refine k_getf (pc := 58) i_66_58 f_3_111 (rd_Tm (i := j1) R g2) rfl ?_
    obtain ⟨r20, M21, q22, hF⟩ := kBd_el hF
    refine kcs_I (pc := 61) (As := [.int r17, .int r6, .int (gp M18 (lTm j1) 3)]) (st := [.int 1, .int r9, .ref (A (lKp j1))]) (A := A) (T := T) (r := r20) (M1 := M21) i_66_61 m_3_189 rfl rfl rfl (Nat.le_of_ble_eq_true rfl) (D_67 R q22) (fun h R => ?_)
    obtain ⟨r23, M24, q25, hF⟩ := kBd_el hF
    refine kcv_V (pc := 64) (As := [.ref (A (lKp j1)), .int r9, .int 1, .int r20]) (st := []) (A := A) (T := T) (r := r23) (M1 := M24) i_66_64 m_3_192 rfl rfl rfl rfl (rd_Kp (i := j1) R g2) rfl (Nat.le_of_ble_eq_true rfl) (D_22 R q25) (fun h R => ?_)
    refine k_iconst (pc := 67) (v := 1) i_66_67 (by decide) ?_
    obtain rfl := Option.some.inj hF
    exact k_ireturn (pc := 68) i_66_68 rfl rfl (K _ R)
-- 69: RD$Runner copyRow
noncomputable def F_69 (T : kT) (a0 : Option Nat) (a1 : Option Nat) (a2 : Int32) (M : kM) : Option (Unit × kM) :=
  kOpt a0 (some ((), M)) (fun j1 => if a2 < 0 then (some ((), M)) else (kGd (kLv T (lTm j1)) (if 12 < (a2 + (gp M (lTm j1) 9)) then (some ((), M)) else (kOpt a1 none (fun j6 => kGd (kLv T (lTm j6)) (kGd (kCk 0 a2 (gp M (lTm j1) 9) 12 12) (some ((), sa M (lRw j6) (va_cpy (gp M (lRw j1)) (gp M (lRw j6)) (0 : Int32).toNatClampNeg a2.toNatClampNeg (gp M (lTm j1) 9).toNatClampNeg)))))))))
set_option maxHeartbeats 1000000 in
theorem D_69 {G : kG} {d : Nat} {A : kLb → Nat} {T : kT} {M : kM} {h : kH} {a0 : Option Nat} {a1 : Option Nat} {a2 : Int32} {z : (Unit × kM)} (R : kRl A T M h) (hF : F_69 T a0 a1 a2 M = some z) : kRun G (d + 1) 69 [rTm A a0, rTm A a1, .int a2] h 0 0 (kPV A T z) := by
  refine ⟨⟨by cases a0 <;> cases a1 <;> rfl, Nat.le_of_ble_eq_true rfl⟩, ?_⟩
  show kWP _ _ (kRun G (d + 0)) _ 0 [some (rTm A a0), some (rTm A a1), some (.int a2)] [] _ _ _
  have K : (fun z : (Unit × kM) => ∀ h1, kRl A T z.2 h1 → kPV A T z (.inl none) h1) z := fun _ q => ⟨rfl, q⟩
  unfold F_69 at hF
  refine k_aload_n (pc := 0) i_69_0 rfl (rf_is _) ?_
  rcases kOpt_el hF with ⟨rfl, hG⟩ | ⟨j1, rfl, hG⟩
  · replace hF := hG
    clear hG
    refine k_isnullN (pc := 1) (tgt := 36) i_69_1 (by decide) ?_
    obtain rfl := Option.some.inj hF
    exact k_return (pc := 36) i_69_36 rfl (K _ R)
  · replace hF := hG
    clear hG
    refine k_isnull (pc := 1) i_69_1 ?_
    refine k_iload_n (pc := 4) i_69_4 rfl ?_
    refine k_if_lt (pc := 5) (tgt := 36) i_69_5 (by decide) (fun c3 => ?_) (fun c3 => ?_)
    · rw [if_pos c3] at hF
      obtain rfl := Option.some.inj hF
      exact k_return (pc := 36) i_69_36 rfl (K _ R)
    · rw [if_neg c3] at hF
      refine k_iload_n (pc := 8) i_69_8 rfl ?_
      refine k_aload_n (pc := 9) i_69_9 rfl rfl ?_
      obtain ⟨g4, hF⟩ := kGd_el hF
      refine k_getf (pc := 10) i_69_10 f_3_121 (rd_Tm (i := j1) R g4) rfl ?_
      refine k_iadd (pc := 13) i_69_13 ?_
      refine k_bipush (pc := 14) (v := 12) i_69_14 (by decide) ?_
      refine k_icmp_gt (pc := 16) (tgt := 36) i_69_16 (by decide) (fun c5 => ?_) (fun c5 => ?_)
      · rw [if_pos c5] at hF
        obtain rfl := Option.some.inj hF
        exact k_return (pc := 36) i_69_36 rfl (K _ R)
      · rw [if_neg c5] at hF
        refine k_aload_n (pc := 19) i_69_19 rfl rfl ?_
        refine k_getf (pc := 20) i_69_20 f_3_99 (rd_Tm (i := j1) R g4) rfl ?_
        refine k_iconst (pc := 23) (v := 0) i_69_23 (by decide) ?_
        refine k_aload_n (pc := 24) i_69_24 rfl (rf_is _) ?_
        obtain ⟨j6, rfl, hG⟩ := kOpt_el1 hF
        replace hF := hG
        clear hG
        obtain ⟨g7, hF⟩ := kGd_el hF
        refine k_getf (pc := 25) i_69_25 f_3_99 (rd_Tm (i := j6) R g7) rfl ?_
        refine k_iload_n (pc := 28) i_69_28 rfl ?_
        refine k_aload_n (pc := 29) i_69_29 rfl rfl ?_
        refine k_getf (pc := 30) i_69_30 f_3_121 (rd_Tm (i := j1) R g4) rfl ?_
        obtain ⟨g8, hF⟩ := kGd_el hF
        obtain ⟨g81, g82, g83, g84, g85⟩ := kCk_el g8
        refine k_copyi (pc := 33) i_69_33 x_3_204 (rd_Rw (i := j1) R g4) (rd_Rw (i := j6) R g7) g81 g82 g83 g84 g85 (Nat.le_of_ble_eq_true rfl) (fun h e9 => ?_)
        replace R := kRl_sa (l := (lRw j6)) (f := va_cpy (gp M (lRw j1)) (gp M (lRw j6)) (0 : Int32).toNatClampNeg a2.toNatClampNeg (gp M (lTm j1) 9).toNatClampNeg) R g7 e9
        clear e9
        obtain rfl := Option.some.inj hF
        exact k_return (pc := 36) i_69_36 rfl (K _ R)
-- 65: RD$Runner keepRow
noncomputable def F_65 (T : kT) (a0 : Option Nat) (M : kM) : Option (Int32 × kM) :=
  kOpt a0 none (fun j1 => kGd (kLv T (lTm j1)) (if (gp M (lTm j1) 0) = 10 then (kBd (F_66 T (some j1) M) (fun r13 M14 => kGd (r13 == 0 || r13 == 1) (some (r13, M14)))) else (if (gp M (lTm j1) 0) = 7 then (kBd (F_69 T (gq M (lTm j1) 7) (some j1) 0 M) (fun r6 M7 => kBd (F_25 T j1 (lRw j1) (gp M7 (lTm j1) 1) (gp M7 (lTm j1) 3) M7) (fun r9 M10 => kGd (r9 == 0 || r9 == 1) (some (r9, M10))))) else (some (1, sp M (lTm j1) 12 ((gp M (lTm j1) 12) + 1))))))
set_option maxHeartbeats 1000000 in
theorem D_65 {G : kG} {d : Nat} {A : kLb → Nat} {T : kT} {M : kM} {h : kH} {a0 : Option Nat} {z : (Int32 × kM)} (R : kRl A T M h) (hF : F_65 T a0 M = some z) : kRun G (d + 3) 65 [rTm A a0] h 0 0 (kPI A T z) := by
  refine ⟨⟨by cases a0 <;> rfl, Nat.le_of_ble_eq_true rfl⟩, ?_⟩
  show kWP _ _ (kRun G (d + 2)) _ 0 [some (rTm A a0)] [] _ _ _
  have K : (fun z : (Int32 × kM) => ∀ h1, kRl A T z.2 h1 → kPI A T z (.inl (some (.int z.1))) h1) z := fun _ q => ⟨rfl, q⟩
  unfold F_65 at hF
  refine k_aload_n (pc := 0) i_65_0 rfl (rf_is _) ?_
  obtain ⟨j1, rfl, hG⟩ := kOpt_el1 hF
  replace hF := hG
  clear hG
  obtain ⟨g2, hF⟩ := kGd_el hF
  refine k_getf (pc := 1) i_65_1 f_3_38 (rd_Tm (i := j1) R g2) rfl ?_
  refine k_bipush (pc := 4) (v := 10) i_65_4 (by decide) ?_
  refine k_icmp_ne (pc := 6) (tgt := 14) i_65_6 (by decide) (fun c3 => ?_) (fun c3 => ?_)
  · rw [if_neg c3] at hF
    refine k_aload_n (pc := 14) i_65_14 rfl rfl ?_
    refine k_getf (pc := 15) i_65_15 f_3_38 (rd_Tm (i := j1) R g2) rfl ?_
    refine k_bipush (pc := 18) (v := 7) i_65_18 (by decide) ?_
    refine k_icmp_ne (pc := 20) (tgt := 52) i_65_20 (by decide) (fun c4 => ?_) (fun c4 => ?_)
    · rw [if_neg c4] at hF
      refine k_aload_n (pc := 52) i_65_52 rfl rfl ?_
      refine k_dup (pc := 53) i_65_53 rfl ?_
      refine k_getf (pc := 54) i_65_54 f_3_76 (rd_Tm (i := j1) R g2) rfl ?_
      refine k_iconst (pc := 57) (v := 1) i_65_57 (by decide) ?_
      refine k_iadd (pc := 58) i_65_58 ?_
      refine k_putf (pc := 59) i_65_59 f_3_76 (rd_Tm (i := j1) R g2) (by decide +kernel) (Nat.le_of_ble_eq_true rfl) rfl rfl rfl (fun h e5 => ?_)
      replace R := kRl_sp (l := (lTm j1)) (k := 12) (v := (gp M (lTm j1) 12) + 1) R g2 e5
      clear e5
      refine k_iconst (pc := 62) (v := 1) i_65_62 (by decide) ?_
      obtain rfl := Option.some.inj hF
      exact k_ireturn (pc := 63) i_65_63 rfl rfl (K _ R)
    · rw [if_pos c4] at hF
      refine k_aload_n (pc := 23) i_65_23 rfl rfl ?_
      refine k_getf (pc := 24) i_65_24 f_3_31 (rd_Tm (i := j1) R g2) rfl ?_
      refine k_aload_n (pc := 27) i_65_27 rfl rfl ?_
      refine k_iconst (pc := 28) (v := 0) i_65_28 (by decide) ?_
      obtain ⟨r6, M7, q8, hF⟩ := kBd_el hF
      refine kcs_V (pc := 29) (As := [rTm A (gq M (lTm j1) 7), .ref (A (lTm j1)), .int 0]) (st := []) (A := A) (T := T) (r := r6) (M1 := M7) i_65_29 m_3_118 rfl rfl rfl (Nat.le_of_ble_eq_true rfl) (D_69 R q8) (fun h R => ?_)
      refine k_aload_n (pc := 32) i_65_32 rfl rfl ?_
      refine k_getf (pc := 33) i_65_33 f_3_148 (rd_Tm (i := j1) R g2) rfl ?_
      refine k_aload_n (pc := 36) i_65_36 rfl rfl ?_
      refine k_getf (pc := 37) i_65_37 f_3_99 (rd_Tm (i := j1) R g2) rfl ?_
      refine k_aload_n (pc := 40) i_65_40 rfl rfl ?_
      refine k_getf (pc := 41) i_65_41 f_3_83 (rd_Tm (i := j1) R g2) rfl ?_
      refine k_aload_n (pc := 44) i_65_44 rfl rfl ?_
      refine k_getf (pc := 45) i_65_45 f_3_111 (rd_Tm (i := j1) R g2) rfl ?_
      obtain ⟨r9, M10, q11, hF⟩ := kBd_el hF
      refine kcv_I (pc := 48) (As := [.ref (A (lKp j1)), .ref (A (lRw j1)), .int (gp M7 (lTm j1) 1), .int (gp M7 (lTm j1) 3)]) (st := []) (A := A) (T := T) (r := r9) (M1 := M10) i_65_48 m_3_177 rfl rfl rfl rfl (rd_Kp (i := j1) R g2) rfl (Nat.le_of_ble_eq_true rfl) (D_25 R q11) (fun h R => ?_)
      obtain ⟨g12, hF⟩ := kGd_el hF
      obtain rfl := Option.some.inj hF
      exact k_ireturn (pc := 51) i_65_51 rfl (kz_nar g12) (K _ R)
  · rw [if_pos c3] at hF
    refine k_aload_n (pc := 9) i_65_9 rfl rfl ?_
    obtain ⟨r13, M14, q15, hF⟩ := kBd_el hF
    refine kcs_I (pc := 10) (As := [.ref (A (lTm j1))]) (st := []) (A := A) (T := T) (r := r13) (M1 := M14) i_65_10 m_3_174 rfl rfl rfl (Nat.le_of_ble_eq_true rfl) (D_66 R q15) (fun h R => ?_)
    obtain ⟨g16, hF⟩ := kGd_el hF
    obtain rfl := Option.some.inj hF
    exact k_ireturn (pc := 13) i_65_13 rfl (kz_nar g16) (K _ R)
-- 53: RD$Runner askSelect
noncomputable def B_53_2 (T : kT) (ak : Option Nat → Int32 → kM → Option (Int32 × kM)) (a1 : Option Nat) (a2 : Int32) (a3 : Int32) (M : kM) : Option ((Int32 × kM) ⊕ (Int32 × kM)) :=
  if 1000000 ≤ a3 then (some (.inr ((2, M)))) else (kOpt a1 none (fun j2 => kGd (kLv T (lTm j2)) (kBd (ak (gq M (lTm j2) 7) (a2 + 1) M) (fun r4 M5 => if r4 = 1 then (kBd (F_68 T (gq M5 (lTm j2) 7) (gp M5 (lTm j2) 1) M5) (fun r8 M9 => kBd (F_54 T r8 (gp M9 (lTm j2) 3) (gp M9 (lTm j2) 4) M9) (fun r11 M12 => if r11 = 0 then (some (.inl ((a3 + 1), M12))) else (kBd (F_69 T (gq M12 (lTm j2) 7) (some j2) 0 M12) (fun r15 M16 => some (.inr ((1, M16)))))))) else (some (.inr ((r4, M5))))))))
noncomputable def F_53_2 (T : kT) (ak : Option Nat → Int32 → kM → Option (Int32 × kM)) (a1 : Option Nat) (a2 : Int32) (a3 : Int32) (M : kM) : Option (Int32 × kM) :=
  kWh (fun w : (Int32 × kM) => B_53_2 T ak a1 a2 w.1 w.2) (a3, M)
theorem F_53_2_eq (T : kT) (ak : Option Nat → Int32 → kM → Option (Int32 × kM)) (a1 : Option Nat) (a2 : Int32) (a3 : Int32) (M : kM) : F_53_2 T ak a1 a2 a3 M = kAg (B_53_2 T ak a1 a2 a3 M) (fun w => F_53_2 T ak a1 a2 w.1 w.2) := by
  unfold F_53_2
  rw [kWh_eq]
set_option maxHeartbeats 1000000 in
theorem W_53_2 {G : kG} {d : Nat} {A : kLb → Nat} {C : kCl} {P : kO → kH → Prop} {T : kT} {M : kM} {h : kH} {ak : Option Nat → Int32 → kM → Option (Int32 × kM)} {a1 : Option Nat} {a2 : Int32} {a3 : Int32} {b4 : Option Value} {z : (Int32 × kM)}
    (hk : ∀ {t : Option Nat} {dp : Int32} {M : kM} {h : kH} {z : Int32 × kM}, kRl A T M h → ak t dp M = some z → kRun G (d + 20) 49 [.ref (A lRu), rTm A t, .int dp] h 0 0 (kPI A T z)) (hC : C = kRun G (d + 20)) (R : kRl A T M h) (K : (fun z : (Int32 × kM) => ∀ h1, kRl A T z.2 h1 → P (.inl (some (.int z.1))) h1) z) (hF : F_53_2 T ak a1 a2 a3 M = some z) : kWP G 53 C P 2 [some (.ref (A lRu)), some (rTm A a1), some (.int a2), some (.int a3), b4] [] h 0 0 := by
  refine kWh_ind (P := (fun w : (Int32 × kM) => ∀ (h : kH) (b4 : Option Value), kRl A T w.2 h → kWP G 53 C P 2 [some (.ref (A lRu)), some (rTm A a1), some (.int a2), some (.int w.1), b4] [] h 0 0)) (Q := (fun z : (Int32 × kM) => ∀ h1, kRl A T z.2 h1 → P (.inl (some (.int z.1))) h1)) hF K ?_ h _ R
  clear hF K R
  intro w z hF K h b4 R
  obtain ⟨a3, M⟩ := w
  change B_53_2 T ak a1 a2 a3 M = some z at hF
  change kWP G 53 C P 2 [some (.ref (A lRu)), some (rTm A a1), some (.int a2), some (.int a3), b4] [] h 0 0
  unfold B_53_2 at hF
  refine k_iload_n (pc := 2) i_53_2 rfl ?_
  refine k_ldc (pc := 3) (v := 1000000) i_53_3 c_3_107 ?_
  refine k_icmp_ge (pc := 5) (tgt := 72) i_53_5 (by decide) (fun c1 => ?_) (fun c1 => ?_)
  · rw [if_pos c1] at hF
    refine k_iconst (pc := 72) (v := 2) i_53_72 (by decide) ?_
    obtain rfl := Option.some.inj hF
    exact k_ireturn (pc := 73) i_53_73 rfl rfl (K _ R)
  · rw [if_neg c1] at hF
    refine k_aload_n (pc := 8) i_53_8 rfl rfl ?_
    refine k_aload_n (pc := 9) i_53_9 rfl (rf_is _) ?_
    obtain ⟨j2, rfl, hG⟩ := kOpt_el1 hF
    replace hF := hG
    clear hG
    obtain ⟨g3, hF⟩ := kGd_el hF
    refine k_getf (pc := 10) i_53_10 f_3_31 (rd_Tm (i := j2) R g3) rfl ?_
    refine k_iload_n (pc := 13) i_53_13 rfl ?_
    refine k_iconst (pc := 14) (v := 1) i_53_14 (by decide) ?_
    refine k_iadd (pc := 15) i_53_15 ?_
    obtain ⟨r4, M5, q6, hF⟩ := kBd_el hF
    refine kcv_I (pc := 16) (As := [.ref (A lRu), rTm A (gq M (lTm j2) 7), .int (a2 + 1)]) (st := []) (A := A) (T := T) (r := r4) (M1 := M5) i_53_16 m_3_22 rfl rfl rfl rfl (rd_Ru R) rfl (Nat.le_of_ble_eq_true rfl) (hC ▸ hk R q6) (fun h R => ?_)
    refine k_istore (pc := 19) (lo2 := [some (.ref (A lRu)), some (.ref (A (lTm j2))), some (.int a2), some (.int a3), some (.int r4)]) i_53_19 (Nat.le_of_ble_eq_true rfl) rfl ?_
    refine k_iload (pc := 21) i_53_21 rfl ?_
    refine k_iconst (pc := 23) (v := 1) i_53_23 (by decide) ?_
    refine k_icmp_eq (pc := 24) (tgt := 30) i_53_24 (by decide) (fun c7 => ?_) (fun c7 => ?_)
    · rw [if_pos c7] at hF
      refine k_aload_n (pc := 30) i_53_30 rfl rfl ?_
      refine k_getf (pc := 31) i_53_31 f_3_31 (rd_Tm (i := j2) R g3) rfl ?_
      refine k_aload_n (pc := 34) i_53_34 rfl rfl ?_
      refine k_getf (pc := 35) i_53_35 f_3_83 (rd_Tm (i := j2) R g3) rfl ?_
      obtain ⟨r8, M9, q10, hF⟩ := kBd_el hF
      refine kcs_I (pc := 38) (As := [rTm A (gq M5 (lTm j2) 7), .int (gp M5 (lTm j2) 1)]) (st := []) (A := A) (T := T) (r := r8) (M1 := M9) i_53_38 m_3_108 rfl rfl rfl (Nat.le_of_ble_eq_true rfl) (hC ▸ D_68 R q10) (fun h R => ?_)
      refine k_aload_n (pc := 41) i_53_41 rfl rfl ?_
      refine k_getf (pc := 42) i_53_42 f_3_111 (rd_Tm (i := j2) R g3) rfl ?_
      refine k_aload_n (pc := 45) i_53_45 rfl rfl ?_
      refine k_getf (pc := 46) i_53_46 f_3_86 (rd_Tm (i := j2) R g3) rfl ?_
      obtain ⟨r11, M12, q13, hF⟩ := kBd_el hF
      refine kcs_I (pc := 49) (As := [.int r8, .int (gp M9 (lTm j2) 3), .int (gp M9 (lTm j2) 4)]) (st := []) (A := A) (T := T) (r := r11) (M1 := M12) i_53_49 m_3_114 rfl rfl rfl (Nat.le_of_ble_eq_true rfl) (hC ▸ D_54 R q13) (fun h R => ?_)
      refine k_if_eq (pc := 52) (tgt := 66) i_53_52 (by decide) (fun c14 => ?_) (fun c14 => ?_)
      · rw [if_pos c14] at hF
        refine k_iinc (pc := 66) (v := a3 + 1) (lo2 := [some (.ref (A lRu)), some (.ref (A (lTm j2))), some (.int a2), some (.int (a3 + 1)), some (.int r4)]) i_53_66 rfl rfl rfl ?_
        refine k_goto (pc := 69) (tgt := 2) i_53_69 (by decide) ?_
        obtain rfl := Option.some.inj hF
        exact K _ _ R
      · rw [if_neg c14] at hF
        refine k_aload_n (pc := 55) i_53_55 rfl rfl ?_
        refine k_getf (pc := 56) i_53_56 f_3_31 (rd_Tm (i := j2) R g3) rfl ?_
        refine k_aload_n (pc := 59) i_53_59 rfl rfl ?_
        refine k_iconst (pc := 60) (v := 0) i_53_60 (by decide) ?_
        obtain ⟨r15, M16, q17, hF⟩ := kBd_el hF
        refine kcs_V (pc := 61) (As := [rTm A (gq M12 (lTm j2) 7), .ref (A (lTm j2)), .int 0]) (st := []) (A := A) (T := T) (r := r15) (M1 := M16) i_53_61 m_3_118 rfl rfl rfl (Nat.le_of_ble_eq_true rfl) (hC ▸ D_69 R q17) (fun h R => ?_)
        refine k_iconst (pc := 64) (v := 1) i_53_64 (by decide) ?_
        obtain rfl := Option.some.inj hF
        exact k_ireturn (pc := 65) i_53_65 rfl rfl (K _ R)
    · rw [if_neg c7] at hF
      refine k_iload (pc := 27) i_53_27 rfl ?_
      obtain rfl := Option.some.inj hF
      exact k_ireturn (pc := 29) i_53_29 rfl rfl (K _ R)
noncomputable def F_53 (T : kT) (ak : Option Nat → Int32 → kM → Option (Int32 × kM)) (a1 : Option Nat) (a2 : Int32) (M : kM) : Option (Int32 × kM) :=
  F_53_2 T ak a1 a2 0 M
set_option maxHeartbeats 1000000 in
theorem D_53 {G : kG} {d : Nat} {A : kLb → Nat} {T : kT} {M : kM} {h : kH} {ak : Option Nat → Int32 → kM → Option (Int32 × kM)} {a1 : Option Nat} {a2 : Int32} {z : (Int32 × kM)}
    (hk : ∀ {t : Option Nat} {dp : Int32} {M : kM} {h : kH} {z : Int32 × kM}, kRl A T M h → ak t dp M = some z → kRun G (d + 20) 49 [.ref (A lRu), rTm A t, .int dp] h 0 0 (kPI A T z)) (R : kRl A T M h) (hF : F_53 T ak a1 a2 M = some z) : kRun G (d + 21) 53 [.ref (A lRu), rTm A a1, .int a2] h 0 0 (kPI A T z) := by
  refine ⟨⟨by cases a1 <;> rfl, Nat.le_of_ble_eq_true rfl⟩, ?_⟩
  show kWP _ _ (kRun G (d + 20)) _ 0 [some (.ref (A lRu)), some (rTm A a1), some (.int a2), none, none] [] _ _ _
  have K : (fun z : (Int32 × kM) => ∀ h1, kRl A T z.2 h1 → kPI A T z (.inl (some (.int z.1))) h1) z := fun _ q => ⟨rfl, q⟩
  unfold F_53 at hF
  refine k_iconst (pc := 0) (v := 0) i_53_0 (by decide) ?_
  refine k_istore_n (pc := 1) (lo2 := [some (.ref (A lRu)), some (rTm A a1), some (.int a2), some (.int 0), none]) i_53_1 (Nat.le_of_ble_eq_true rfl) rfl ?_
  exact W_53_2 (d := d) hk rfl R K hF
-- 55: RD$Runner askProject
noncomputable def B_55_20 (T : kT) (ak : Option Nat → Int32 → kM → Option (Int32 × kM)) (a1 : Nat) (a3 : Int32) (a4 : Int32) (M : kM) : Option ((Int32 × kM) ⊕ (Int32 × kM)) :=
  kGd (kLv T (lTm a1)) (if (gp M (lTm a1) 9) ≤ a4 then (some (.inr ((a3, M)))) else (if 8 ≤ a4 then (some (.inr ((a3, M)))) else (kGx a4 8 (kBd (F_68 T (gq M (lTm a1) 7) (gp M (lPk a1) a4.toNatClampNeg) M) (fun r11 M12 => kGx a4 12 (some (.inl ((a4 + 1), sp M12 (lRw a1) a4.toNatClampNeg r11))))))))
noncomputable def F_55_20 (T : kT) (ak : Option Nat → Int32 → kM → Option (Int32 × kM)) (a1 : Nat) (a3 : Int32) (a4 : Int32) (M : kM) : Option (Int32 × kM) :=
  kWh (fun w : (Int32 × kM) => B_55_20 T ak a1 a3 w.1 w.2) (a4, M)
theorem F_55_20_eq (T : kT) (ak : Option Nat → Int32 → kM → Option (Int32 × kM)) (a1 : Nat) (a3 : Int32) (a4 : Int32) (M : kM) : F_55_20 T ak a1 a3 a4 M = kAg (B_55_20 T ak a1 a3 a4 M) (fun w => F_55_20 T ak a1 a3 w.1 w.2) := by
  unfold F_55_20
  rw [kWh_eq]
set_option maxHeartbeats 1000000 in
theorem W_55_20 {G : kG} {d : Nat} {A : kLb → Nat} {C : kCl} {P : kO → kH → Prop} {T : kT} {M : kM} {h : kH} {ak : Option Nat → Int32 → kM → Option (Int32 × kM)} {a1 : Nat} {a3 : Int32} {a4 : Int32} {b0 b2 : Option Value} {z : (Int32 × kM)}
    (hk : ∀ {t : Option Nat} {dp : Int32} {M : kM} {h : kH} {z : Int32 × kM}, kRl A T M h → ak t dp M = some z → kRun G (d + 20) 49 [.ref (A lRu), rTm A t, .int dp] h 0 0 (kPI A T z)) (hC : C = kRun G (d + 20)) (R : kRl A T M h) (K : (fun z : (Int32 × kM) => ∀ h1, kRl A T z.2 h1 → P (.inl (some (.int z.1))) h1) z) (hF : F_55_20 T ak a1 a3 a4 M = some z) : kWP G 55 C P 20 [b0, some (.ref (A (lTm a1))), b2, some (.int a3), some (.int a4)] [] h 0 0 := by
  refine kWh_ind (P := (fun w : (Int32 × kM) => ∀ (h : kH) (b0 b2 : Option Value), kRl A T w.2 h → kWP G 55 C P 20 [b0, some (.ref (A (lTm a1))), b2, some (.int a3), some (.int w.1)] [] h 0 0)) (Q := (fun z : (Int32 × kM) => ∀ h1, kRl A T z.2 h1 → P (.inl (some (.int z.1))) h1)) hF K ?_ h _ _ R
  clear hF K R
  intro w z hF K h b0 b2 R
  obtain ⟨a4, M⟩ := w
  change B_55_20 T ak a1 a3 a4 M = some z at hF
  change kWP G 55 C P 20 [b0, some (.ref (A (lTm a1))), b2, some (.int a3), some (.int a4)] [] h 0 0
  unfold B_55_20 at hF
  refine k_iload (pc := 20) i_55_20 rfl ?_
  refine k_aload_n (pc := 22) i_55_22 rfl rfl ?_
  obtain ⟨g7, hF⟩ := kGd_el hF
  refine k_getf (pc := 23) i_55_23 f_3_121 (rd_Tm (i := a1) R g7) rfl ?_
  refine k_icmp_ge (pc := 26) (tgt := 63) i_55_26 (by decide) (fun c8 => ?_) (fun c8 => ?_)
  · rw [if_pos c8] at hF
    refine k_iload_n (pc := 63) i_55_63 rfl ?_
    obtain rfl := Option.some.inj hF
    exact k_ireturn (pc := 64) i_55_64 rfl rfl (K _ R)
  · rw [if_neg c8] at hF
    refine k_iload (pc := 29) i_55_29 rfl ?_
    refine k_bipush (pc := 31) (v := 8) i_55_31 (by decide) ?_
    refine k_icmp_ge (pc := 33) (tgt := 63) i_55_33 (by decide) (fun c9 => ?_) (fun c9 => ?_)
    · rw [if_pos c9] at hF
      refine k_iload_n (pc := 63) i_55_63 rfl ?_
      obtain rfl := Option.some.inj hF
      exact k_ireturn (pc := 64) i_55_64 rfl rfl (K _ R)
    · rw [if_neg c9] at hF
      refine k_aload_n (pc := 36) i_55_36 rfl rfl ?_
      refine k_getf (pc := 37) i_55_37 f_3_99 (rd_Tm (i := a1) R g7) rfl ?_
      refine k_iload (pc := 40) i_55_40 rfl ?_
      refine k_aload_n (pc := 42) i_55_42 rfl rfl ?_
      refine k_getf (pc := 43) i_55_43 f_3_31 (rd_Tm (i := a1) R g7) rfl ?_
      refine k_aload_n (pc := 46) i_55_46 rfl rfl ?_
      refine k_getf (pc := 47) i_55_47 f_3_124 (rd_Tm (i := a1) R g7) rfl ?_
      refine k_iload (pc := 50) i_55_50 rfl ?_
      obtain ⟨g10, hF⟩ := kGx_el hF
      refine k_iald (pc := 52) i_55_52 (rd_Pk (i := a1) R g7) g10 ?_
      obtain ⟨r11, M12, q13, hF⟩ := kBd_el hF
      refine kcs_I (pc := 53) (As := [rTm A (gq M (lTm a1) 7), .int (gp M (lPk a1) a4.toNatClampNeg)]) (st := [.int a4, .ref (A (lRw a1))]) (A := A) (T := T) (r := r11) (M1 := M12) i_55_53 m_3_108 rfl rfl rfl (Nat.le_of_ble_eq_true rfl) (hC ▸ D_68 R q13) (fun h R => ?_)
      obtain ⟨g14, hF⟩ := kGx_el hF
      refine k_iast (pc := 56) i_55_56 (rd_Rw (i := a1) R g7) g14 (fun h e15 => ?_)
      replace R := kRl_sp (l := (lRw a1)) (k := a4.toNatClampNeg) (v := r11) R g7 e15
      clear e15
      refine k_iinc (pc := 57) (v := a4 + 1) (lo2 := [b0, some (.ref (A (lTm a1))), b2, some (.int a3), some (.int (a4 + 1))]) i_55_57 rfl rfl rfl ?_
      refine k_goto (pc := 60) (tgt := 20) i_55_60 (by decide) ?_
      obtain rfl := Option.some.inj hF
      exact K _ _ _ R
noncomputable def F_55 (T : kT) (ak : Option Nat → Int32 → kM → Option (Int32 × kM)) (a1 : Option Nat) (a2 : Int32) (M : kM) : Option (Int32 × kM) :=
  kOpt a1 none (fun j1 => kGd (kLv T (lTm j1)) (kBd (ak (gq M (lTm j1) 7) (a2 + 1) M) (fun r3 M4 => if r3 = 1 then (F_55_20 T ak j1 r3 0 M4) else (some (r3, M4)))))
set_option maxHeartbeats 1000000 in
theorem D_55 {G : kG} {d : Nat} {A : kLb → Nat} {T : kT} {M : kM} {h : kH} {ak : Option Nat → Int32 → kM → Option (Int32 × kM)} {a1 : Option Nat} {a2 : Int32} {z : (Int32 × kM)}
    (hk : ∀ {t : Option Nat} {dp : Int32} {M : kM} {h : kH} {z : Int32 × kM}, kRl A T M h → ak t dp M = some z → kRun G (d + 20) 49 [.ref (A lRu), rTm A t, .int dp] h 0 0 (kPI A T z)) (R : kRl A T M h) (hF : F_55 T ak a1 a2 M = some z) : kRun G (d + 21) 55 [.ref (A lRu), rTm A a1, .int a2] h 0 0 (kPI A T z) := by
  refine ⟨⟨by cases a1 <;> rfl, Nat.le_of_ble_eq_true rfl⟩, ?_⟩
  show kWP _ _ (kRun G (d + 20)) _ 0 [some (.ref (A lRu)), some (rTm A a1), some (.int a2), none, none] [] _ _ _
  have K : (fun z : (Int32 × kM) => ∀ h1, kRl A T z.2 h1 → kPI A T z (.inl (some (.int z.1))) h1) z := fun _ q => ⟨rfl, q⟩
  unfold F_55 at hF
  refine k_aload_n (pc := 0) i_55_0 rfl rfl ?_
  refine k_aload_n (pc := 1) i_55_1 rfl (rf_is _) ?_
  obtain ⟨j1, rfl, hG⟩ := kOpt_el1 hF
  replace hF := hG
  clear hG
  obtain ⟨g2, hF⟩ := kGd_el hF
  refine k_getf (pc := 2) i_55_2 f_3_31 (rd_Tm (i := j1) R g2) rfl ?_
  refine k_iload_n (pc := 5) i_55_5 rfl ?_
  refine k_iconst (pc := 6) (v := 1) i_55_6 (by decide) ?_
  refine k_iadd (pc := 7) i_55_7 ?_
  obtain ⟨r3, M4, q5, hF⟩ := kBd_el hF
  refine kcv_I (pc := 8) (As := [.ref (A lRu), rTm A (gq M (lTm j1) 7), .int (a2 + 1)]) (st := []) (A := A) (T := T) (r := r3) (M1 := M4) i_55_8 m_3_22 rfl rfl rfl rfl (rd_Ru R) rfl (Nat.le_of_ble_eq_true rfl) (hk R q5) (fun h R => ?_)
  refine k_istore_n (pc := 11) (lo2 := [some (.ref (A lRu)), some (.ref (A (lTm j1))), some (.int a2), some (.int r3), none]) i_55_11 (Nat.le_of_ble_eq_true rfl) rfl ?_
  refine k_iload_n (pc := 12) i_55_12 rfl ?_
  refine k_iconst (pc := 13) (v := 1) i_55_13 (by decide) ?_
  refine k_icmp_ne (pc := 14) (tgt := 63) i_55_14 (by decide) (fun c6 => ?_) (fun c6 => ?_)
  · rw [if_neg c6] at hF
    refine k_iload_n (pc := 63) i_55_63 rfl ?_
    obtain rfl := Option.some.inj hF
    exact k_ireturn (pc := 64) i_55_64 rfl rfl (K _ R)
  · rw [if_pos c6] at hF
    refine k_iconst (pc := 17) (v := 0) i_55_17 (by decide) ?_
    refine k_istore (pc := 18) (lo2 := [some (.ref (A lRu)), some (.ref (A (lTm j1))), some (.int a2), some (.int r3), some (.int 0)]) i_55_18 (Nat.le_of_ble_eq_true rfl) rfl ?_
    exact W_55_20 (d := d) hk rfl R K hF
-- 56: RD$Runner askPair
noncomputable def F_56_53 (T : kT) (ak : Option Nat → Int32 → kM → Option (Int32 × kM)) (a1 : Nat) (a2 : Int32) (a3 : Int32) (M : kM) : Option ((Int32 × kM) ⊕ (Int32 × kM)) :=
  kGd (kLv T (lTm a1)) (kBd (ak (gq M (lTm a1) 8) (a2 + 1) M) (fun r6 M7 => if r6 = 0 then (some (.inl ((a3 + 1), sp M7 (lTm a1) 13 0))) else (if r6 = 1 then (kBd (F_57 T (some a1) M7) (fun r11 M12 => if r11 = 0 then (some (.inl ((a3 + 1), M12))) else (kBd (F_69 T (gq M12 (lTm a1) 7) (some a1) 0 M12) (fun r15 M16 => kBd (F_18 T (gq M16 (lTm a1) 7) M16) (fun r18 M19 => kBd (F_69 T (gq M16 (lTm a1) 8) (some a1) r18 M19) (fun r21 M22 => some (.inr ((1, M22))))))))) else (some (.inr ((r6, M7)))))))
set_option maxHeartbeats 1000000 in
theorem W_56_53 {G : kG} {d : Nat} {A : kLb → Nat} {C : kCl} {P : kO → kH → Prop} {T : kT} {M : kM} {h : kH} {ak : Option Nat → Int32 → kM → Option (Int32 × kM)} {a1 : Nat} {a2 : Int32} {a3 : Int32} {b4 : Option Value} {z : ((Int32 × kM) ⊕ (Int32 × kM))}
    (hk : ∀ {t : Option Nat} {dp : Int32} {M : kM} {h : kH} {z : Int32 × kM}, kRl A T M h → ak t dp M = some z → kRun G (d + 20) 49 [.ref (A lRu), rTm A t, .int dp] h 0 0 (kPI A T z)) (hC : C = kRun G (d + 20)) (R : kRl A T M h) (K : (Sum.elim (fun w : (Int32 × kM) => ∀ (h : kH) (b4 : Option Value), kRl A T w.2 h → kWP G 56 C P 2 [some (.ref (A lRu)), some (rTm A a1), some (.int a2), some (.int w.1), b4] [] h 0 0) (fun z : (Int32 × kM) => ∀ h1, kRl A T z.2 h1 → P (.inl (some (.int z.1))) h1)) z) (hF : F_56_53 T ak a1 a2 a3 M = some z) : kWP G 56 C P 53 [some (.ref (A lRu)), some (.ref (A (lTm a1))), some (.int a2), some (.int a3), b4] [] h 0 0 := by
  unfold F_56_53 at hF
  refine k_aload_n (pc := 53) i_56_53 rfl rfl ?_
  refine k_aload_n (pc := 54) i_56_54 rfl rfl ?_
  obtain ⟨g5, hF⟩ := kGd_el hF
  refine k_getf (pc := 55) i_56_55 f_3_35 (rd_Tm (i := a1) R g5) rfl ?_
  refine k_iload_n (pc := 58) i_56_58 rfl ?_
  refine k_iconst (pc := 59) (v := 1) i_56_59 (by decide) ?_
  refine k_iadd (pc := 60) i_56_60 ?_
  obtain ⟨r6, M7, q8, hF⟩ := kBd_el hF
  refine kcv_I (pc := 61) (As := [.ref (A lRu), rTm A (gq M (lTm a1) 8), .int (a2 + 1)]) (st := []) (A := A) (T := T) (r := r6) (M1 := M7) i_56_61 m_3_22 rfl rfl rfl rfl (rd_Ru R) rfl (Nat.le_of_ble_eq_true rfl) (hC ▸ hk R q8) (fun h R => ?_)
  refine k_istore (pc := 64) (lo2 := [some (.ref (A lRu)), some (.ref (A (lTm a1))), some (.int a2), some (.int a3), some (.int r6)]) i_56_64 (Nat.le_of_ble_eq_true rfl) rfl ?_
  refine k_iload (pc := 66) i_56_66 rfl ?_
  refine k_if_ne (pc := 68) (tgt := 79) i_56_68 (by decide) (fun c9 => ?_) (fun c9 => ?_)
  · rw [if_neg c9] at hF
    refine k_iload (pc := 79) i_56_79 rfl ?_
    refine k_iconst (pc := 81) (v := 1) i_56_81 (by decide) ?_
    refine k_icmp_eq (pc := 82) (tgt := 88) i_56_82 (by decide) (fun c10 => ?_) (fun c10 => ?_)
    · rw [if_pos c10] at hF
      refine k_aload_n (pc := 88) i_56_88 rfl rfl ?_
      obtain ⟨r11, M12, q13, hF⟩ := kBd_el hF
      refine kcs_I (pc := 89) (As := [.ref (A (lTm a1))]) (st := []) (A := A) (T := T) (r := r11) (M1 := M12) i_56_89 m_3_131 rfl rfl rfl (Nat.le_of_ble_eq_true rfl) (hC ▸ D_57 R q13) (fun h R => ?_)
      refine k_if_eq (pc := 92) (tgt := 121) i_56_92 (by decide) (fun c14 => ?_) (fun c14 => ?_)
      · rw [if_pos c14] at hF
        refine k_iinc (pc := 121) (v := a3 + 1) (lo2 := [some (.ref (A lRu)), some (.ref (A (lTm a1))), some (.int a2), some (.int (a3 + 1)), some (.int r6)]) i_56_121 rfl rfl rfl ?_
        refine k_goto (pc := 124) (tgt := 2) i_56_124 (by decide) ?_
        obtain rfl := Option.some.inj hF
        exact K _ _ R
      · rw [if_neg c14] at hF
        refine k_aload_n (pc := 95) i_56_95 rfl rfl ?_
        refine k_getf (pc := 96) i_56_96 f_3_31 (rd_Tm (i := a1) R g5) rfl ?_
        refine k_aload_n (pc := 99) i_56_99 rfl rfl ?_
        refine k_iconst (pc := 100) (v := 0) i_56_100 (by decide) ?_
        obtain ⟨r15, M16, q17, hF⟩ := kBd_el hF
        refine kcs_V (pc := 101) (As := [rTm A (gq M12 (lTm a1) 7), .ref (A (lTm a1)), .int 0]) (st := []) (A := A) (T := T) (r := r15) (M1 := M16) i_56_101 m_3_118 rfl rfl rfl (Nat.le_of_ble_eq_true rfl) (hC ▸ D_69 R q17) (fun h R => ?_)
        refine k_aload_n (pc := 104) i_56_104 rfl rfl ?_
        refine k_getf (pc := 105) i_56_105 f_3_35 (rd_Tm (i := a1) R g5) rfl ?_
        refine k_aload_n (pc := 108) i_56_108 rfl rfl ?_
        refine k_aload_n (pc := 109) i_56_109 rfl rfl ?_
        refine k_getf (pc := 110) i_56_110 f_3_31 (rd_Tm (i := a1) R g5) rfl ?_
        obtain ⟨r18, M19, q20, hF⟩ := kBd_el hF
        refine kcs_I (pc := 113) (As := [rTm A (gq M16 (lTm a1) 7)]) (st := [.ref (A (lTm a1)), rTm A (gq M16 (lTm a1) 8)]) (A := A) (T := T) (r := r18) (M1 := M19) i_56_113 m_3_135 rfl rfl rfl (by simp only [List.map_cons, List.map_nil, rTm, rTb, rf_cat]; exact Nat.le_of_ble_eq_true rfl) (hC ▸ D_18 R q20) (fun h R => ?_)
        obtain ⟨r21, M22, q23, hF⟩ := kBd_el hF
        refine kcs_V (pc := 116) (As := [rTm A (gq M16 (lTm a1) 8), .ref (A (lTm a1)), .int r18]) (st := []) (A := A) (T := T) (r := r21) (M1 := M22) i_56_116 m_3_118 rfl rfl rfl (Nat.le_of_ble_eq_true rfl) (hC ▸ D_69 R q23) (fun h R => ?_)
        refine k_iconst (pc := 119) (v := 1) i_56_119 (by decide) ?_
        obtain rfl := Option.some.inj hF
        exact k_ireturn (pc := 120) i_56_120 rfl rfl (K _ R)
    · rw [if_neg c10] at hF
      refine k_iload (pc := 85) i_56_85 rfl ?_
      obtain rfl := Option.some.inj hF
      exact k_ireturn (pc := 87) i_56_87 rfl rfl (K _ R)
  · rw [if_pos c9] at hF
    refine k_aload_n (pc := 71) i_56_71 rfl rfl ?_
    refine k_iconst (pc := 72) (v := 0) i_56_72 (by decide) ?_
    refine k_putf (pc := 73) i_56_73 f_3_127 (rd_Tm (i := a1) R g5) (by decide +kernel) (Nat.le_of_ble_eq_true rfl) rfl rfl rfl (fun h e24 => ?_)
    replace R := kRl_sp (l := (lTm a1)) (k := 13) (v := 0) R g5 e24
    clear e24
    refine k_goto (pc := 76) (tgt := 121) i_56_76 (by decide) ?_
    refine k_iinc (pc := 121) (v := a3 + 1) (lo2 := [some (.ref (A lRu)), some (.ref (A (lTm a1))), some (.int a2), some (.int (a3 + 1)), some (.int r6)]) i_56_121 rfl rfl rfl ?_
    refine k_goto (pc := 124) (tgt := 2) i_56_124 (by decide) ?_
    obtain rfl := Option.some.inj hF
    exact K _ _ R
noncomputable def B_56_2 (T : kT) (ak : Option Nat → Int32 → kM → Option (Int32 × kM)) (a1 : Option Nat) (a2 : Int32) (a3 : Int32) (M : kM) : Option ((Int32 × kM) ⊕ (Int32 × kM)) :=
  if 1000000 ≤ a3 then (some (.inr ((2, M)))) else (kOpt a1 none (fun j2 => kGd (kLv T (lTm j2)) (if (gp M (lTm j2) 13) = 0 then (kBd (ak (gq M (lTm j2) 7) (a2 + 1) M) (fun r5 M6 => if r5 = 1 then (kBd (F_48r T 12 (gq (sp M6 (lTm j2) 13 1) (lTm j2) 8) (a2 + 1) (sp M6 (lTm j2) 13 1)) (fun r10 M11 => F_56_53 T ak j2 a2 a3 M11)) else (some (.inr ((r5, M6)))))) else (F_56_53 T ak j2 a2 a3 M))))
noncomputable def F_56_2 (T : kT) (ak : Option Nat → Int32 → kM → Option (Int32 × kM)) (a1 : Option Nat) (a2 : Int32) (a3 : Int32) (M : kM) : Option (Int32 × kM) :=
  kWh (fun w : (Int32 × kM) => B_56_2 T ak a1 a2 w.1 w.2) (a3, M)
theorem F_56_2_eq (T : kT) (ak : Option Nat → Int32 → kM → Option (Int32 × kM)) (a1 : Option Nat) (a2 : Int32) (a3 : Int32) (M : kM) : F_56_2 T ak a1 a2 a3 M = kAg (B_56_2 T ak a1 a2 a3 M) (fun w => F_56_2 T ak a1 a2 w.1 w.2) := by
  unfold F_56_2
  rw [kWh_eq]
set_option maxHeartbeats 1000000 in
theorem W_56_2 {G : kG} {d : Nat} {A : kLb → Nat} {C : kCl} {P : kO → kH → Prop} {T : kT} {M : kM} {h : kH} {ak : Option Nat → Int32 → kM → Option (Int32 × kM)} {a1 : Option Nat} {a2 : Int32} {a3 : Int32} {b4 : Option Value} {z : (Int32 × kM)}
    (hk : ∀ {t : Option Nat} {dp : Int32} {M : kM} {h : kH} {z : Int32 × kM}, kRl A T M h → ak t dp M = some z → kRun G (d + 20) 49 [.ref (A lRu), rTm A t, .int dp] h 0 0 (kPI A T z)) (hC : C = kRun G (d + 20)) (R : kRl A T M h) (K : (fun z : (Int32 × kM) => ∀ h1, kRl A T z.2 h1 → P (.inl (some (.int z.1))) h1) z) (hF : F_56_2 T ak a1 a2 a3 M = some z) : kWP G 56 C P 2 [some (.ref (A lRu)), some (rTm A a1), some (.int a2), some (.int a3), b4] [] h 0 0 := by
  refine kWh_ind (P := (fun w : (Int32 × kM) => ∀ (h : kH) (b4 : Option Value), kRl A T w.2 h → kWP G 56 C P 2 [some (.ref (A lRu)), some (rTm A a1), some (.int a2), some (.int w.1), b4] [] h 0 0)) (Q := (fun z : (Int32 × kM) => ∀ h1, kRl A T z.2 h1 → P (.inl (some (.int z.1))) h1)) hF K ?_ h _ R
  clear hF K R
  intro w z hF K h b4 R
  obtain ⟨a3, M⟩ := w
  change B_56_2 T ak a1 a2 a3 M = some z at hF
  change kWP G 56 C P 2 [some (.ref (A lRu)), some (rTm A a1), some (.int a2), some (.int a3), b4] [] h 0 0
  unfold B_56_2 at hF
  refine k_iload_n (pc := 2) i_56_2 rfl ?_
  refine k_ldc (pc := 3) (v := 1000000) i_56_3 c_3_107 ?_
  refine k_icmp_ge (pc := 5) (tgt := 127) i_56_5 (by decide) (fun c1 => ?_) (fun c1 => ?_)
  · rw [if_pos c1] at hF
    refine k_iconst (pc := 127) (v := 2) i_56_127 (by decide) ?_
    obtain rfl := Option.some.inj hF
    exact k_ireturn (pc := 128) i_56_128 rfl rfl (K _ R)
  · rw [if_neg c1] at hF
    refine k_aload_n (pc := 8) i_56_8 rfl (rf_is _) ?_
    obtain ⟨j2, rfl, hG⟩ := kOpt_el1 hF
    replace hF := hG
    clear hG
    obtain ⟨g3, hF⟩ := kGd_el hF
    refine k_getf (pc := 9) i_56_9 f_3_127 (rd_Tm (i := j2) R g3) rfl ?_
    refine k_if_ne (pc := 12) (tgt := 53) i_56_12 (by decide) (fun c4 => ?_) (fun c4 => ?_)
    · rw [if_neg c4] at hF
      exact W_56_53 (d := d) hk hC R K hF
    · rw [if_pos c4] at hF
      refine k_aload_n (pc := 15) i_56_15 rfl rfl ?_
      refine k_aload_n (pc := 16) i_56_16 rfl rfl ?_
      refine k_getf (pc := 17) i_56_17 f_3_31 (rd_Tm (i := j2) R g3) rfl ?_
      refine k_iload_n (pc := 20) i_56_20 rfl ?_
      refine k_iconst (pc := 21) (v := 1) i_56_21 (by decide) ?_
      refine k_iadd (pc := 22) i_56_22 ?_
      obtain ⟨r5, M6, q7, hF⟩ := kBd_el hF
      refine kcv_I (pc := 23) (As := [.ref (A lRu), rTm A (gq M (lTm j2) 7), .int (a2 + 1)]) (st := []) (A := A) (T := T) (r := r5) (M1 := M6) i_56_23 m_3_22 rfl rfl rfl rfl (rd_Ru R) rfl (Nat.le_of_ble_eq_true rfl) (hC ▸ hk R q7) (fun h R => ?_)
      refine k_istore (pc := 26) (lo2 := [some (.ref (A lRu)), some (.ref (A (lTm j2))), some (.int a2), some (.int a3), some (.int r5)]) i_56_26 (Nat.le_of_ble_eq_true rfl) rfl ?_
      refine k_iload (pc := 28) i_56_28 rfl ?_
      refine k_iconst (pc := 30) (v := 1) i_56_30 (by decide) ?_
      refine k_icmp_eq (pc := 31) (tgt := 37) i_56_31 (by decide) (fun c8 => ?_) (fun c8 => ?_)
      · rw [if_pos c8] at hF
        refine k_aload_n (pc := 37) i_56_37 rfl rfl ?_
        refine k_iconst (pc := 38) (v := 1) i_56_38 (by decide) ?_
        refine k_putf (pc := 39) i_56_39 f_3_127 (rd_Tm (i := j2) R g3) (by decide +kernel) (Nat.le_of_ble_eq_true rfl) rfl rfl rfl (fun h e9 => ?_)
        replace R := kRl_sp (l := (lTm j2)) (k := 13) (v := 1) R g3 e9
        clear e9
        refine k_aload_n (pc := 42) i_56_42 rfl rfl ?_
        refine k_aload_n (pc := 43) i_56_43 rfl rfl ?_
        refine k_getf (pc := 44) i_56_44 f_3_35 (rd_Tm (i := j2) R g3) rfl ?_
        refine k_iload_n (pc := 47) i_56_47 rfl ?_
        refine k_iconst (pc := 48) (v := 1) i_56_48 (by decide) ?_
        refine k_iadd (pc := 49) i_56_49 ?_
        obtain ⟨r10, M11, q12, hF⟩ := kBd_el hF
        refine kcv_V (pc := 50) (As := [.ref (A lRu), rTm A (gq (sp M6 (lTm j2) 13 1) (lTm j2) 8), .int (a2 + 1)]) (st := []) (A := A) (T := T) (r := r10) (M1 := M11) i_56_50 m_3_15 rfl rfl rfl rfl (rd_Ru R) rfl (Nat.le_of_ble_eq_true rfl) (hC ▸ D_48r (e := 12) R q12) (fun h R => ?_)
        exact W_56_53 (d := d) hk hC R K hF
      · rw [if_neg c8] at hF
        refine k_iload (pc := 34) i_56_34 rfl ?_
        obtain rfl := Option.some.inj hF
        exact k_ireturn (pc := 36) i_56_36 rfl rfl (K _ R)
noncomputable def F_56 (T : kT) (ak : Option Nat → Int32 → kM → Option (Int32 × kM)) (a1 : Option Nat) (a2 : Int32) (M : kM) : Option (Int32 × kM) :=
  F_56_2 T ak a1 a2 0 M
set_option maxHeartbeats 1000000 in
theorem D_56 {G : kG} {d : Nat} {A : kLb → Nat} {T : kT} {M : kM} {h : kH} {ak : Option Nat → Int32 → kM → Option (Int32 × kM)} {a1 : Option Nat} {a2 : Int32} {z : (Int32 × kM)}
    (hk : ∀ {t : Option Nat} {dp : Int32} {M : kM} {h : kH} {z : Int32 × kM}, kRl A T M h → ak t dp M = some z → kRun G (d + 20) 49 [.ref (A lRu), rTm A t, .int dp] h 0 0 (kPI A T z)) (R : kRl A T M h) (hF : F_56 T ak a1 a2 M = some z) : kRun G (d + 21) 56 [.ref (A lRu), rTm A a1, .int a2] h 0 0 (kPI A T z) := by
  refine ⟨⟨by cases a1 <;> rfl, Nat.le_of_ble_eq_true rfl⟩, ?_⟩
  show kWP _ _ (kRun G (d + 20)) _ 0 [some (.ref (A lRu)), some (rTm A a1), some (.int a2), none, none] [] _ _ _
  have K : (fun z : (Int32 × kM) => ∀ h1, kRl A T z.2 h1 → kPI A T z (.inl (some (.int z.1))) h1) z := fun _ q => ⟨rfl, q⟩
  unfold F_56 at hF
  refine k_iconst (pc := 0) (v := 0) i_56_0 (by decide) ?_
  refine k_istore_n (pc := 1) (lo2 := [some (.ref (A lRu)), some (rTm A a1), some (.int a2), some (.int 0), none]) i_56_1 (Nat.le_of_ble_eq_true rfl) rfl ?_
  exact W_56_2 (d := d) hk rfl R K hF
-- 58: RD$Runner askThrough
noncomputable def F_58 (T : kT) (ak : Option Nat → Int32 → kM → Option (Int32 × kM)) (a1 : Option Nat) (a2 : Option Nat) (a3 : Int32) (M : kM) : Option (Int32 × kM) :=
  kBd (ak a2 (a3 + 1) M) (fun r1 M2 => if r1 = 1 then (kBd (F_69 T a2 a1 0 M2) (fun r5 M6 => some (r1, M6))) else (some (r1, M2)))
set_option maxHeartbeats 1000000 in
theorem D_58 {G : kG} {d : Nat} {A : kLb → Nat} {T : kT} {M : kM} {h : kH} {ak : Option Nat → Int32 → kM → Option (Int32 × kM)} {a1 : Option Nat} {a2 : Option Nat} {a3 : Int32} {z : (Int32 × kM)}
    (hk : ∀ {t : Option Nat} {dp : Int32} {M : kM} {h : kH} {z : Int32 × kM}, kRl A T M h → ak t dp M = some z → kRun G (d + 20) 49 [.ref (A lRu), rTm A t, .int dp] h 0 0 (kPI A T z)) (R : kRl A T M h) (hF : F_58 T ak a1 a2 a3 M = some z) : kRun G (d + 21) 58 [.ref (A lRu), rTm A a1, rTm A a2, .int a3] h 0 0 (kPI A T z) := by
  refine ⟨⟨by cases a1 <;> cases a2 <;> rfl, Nat.le_of_ble_eq_true rfl⟩, ?_⟩
  show kWP _ _ (kRun G (d + 20)) _ 0 [some (.ref (A lRu)), some (rTm A a1), some (rTm A a2), some (.int a3), none] [] _ _ _
  have K : (fun z : (Int32 × kM) => ∀ h1, kRl A T z.2 h1 → kPI A T z (.inl (some (.int z.1))) h1) z := fun _ q => ⟨rfl, q⟩
  unfold F_58 at hF
  refine k_aload_n (pc := 0) i_58_0 rfl rfl ?_
  refine k_aload_n (pc := 1) i_58_1 rfl (rf_is _) ?_
  refine k_iload_n (pc := 2) i_58_2 rfl ?_
  refine k_iconst (pc := 3) (v := 1) i_58_3 (by decide) ?_
  refine k_iadd (pc := 4) i_58_4 ?_
  obtain ⟨r1, M2, q3, hF⟩ := kBd_el hF
  refine kcv_I (pc := 5) (As := [.ref (A lRu), rTm A a2, .int (a3 + 1)]) (st := []) (A := A) (T := T) (r := r1) (M1 := M2) i_58_5 m_3_22 rfl rfl rfl rfl (rd_Ru R) rfl (Nat.le_of_ble_eq_true rfl) (hk R q3) (fun h R => ?_)
  refine k_istore (pc := 8) (lo2 := [some (.ref (A lRu)), some (rTm A a1), some (rTm A a2), some (.int a3), some (.int r1)]) i_58_8 (Nat.le_of_ble_eq_true rfl) rfl ?_
  refine k_iload (pc := 10) i_58_10 rfl ?_
  refine k_iconst (pc := 12) (v := 1) i_58_12 (by decide) ?_
  refine k_icmp_ne (pc := 13) (tgt := 22) i_58_13 (by decide) (fun c4 => ?_) (fun c4 => ?_)
  · rw [if_neg c4] at hF
    refine k_iload (pc := 22) i_58_22 rfl ?_
    obtain rfl := Option.some.inj hF
    exact k_ireturn (pc := 24) i_58_24 rfl rfl (K _ R)
  · rw [if_pos c4] at hF
    refine k_aload_n (pc := 16) i_58_16 rfl (rf_is _) ?_
    refine k_aload_n (pc := 17) i_58_17 rfl (rf_is _) ?_
    refine k_iconst (pc := 18) (v := 0) i_58_18 (by decide) ?_
    obtain ⟨r5, M6, q7, hF⟩ := kBd_el hF
    refine kcs_V (pc := 19) (As := [rTm A a2, rTm A a1, .int 0]) (st := []) (A := A) (T := T) (r := r5) (M1 := M6) i_58_19 m_3_118 rfl rfl rfl (Nat.le_of_ble_eq_true rfl) (D_69 R q7) (fun h R => ?_)
    refine k_iload (pc := 22) i_58_22 rfl ?_
    obtain rfl := Option.some.inj hF
    exact k_ireturn (pc := 24) i_58_24 rfl rfl (K _ R)
-- 59: RD$Runner askUnion
noncomputable def F_59_29 (T : kT) (ak : Option Nat → Int32 → kM → Option (Int32 × kM)) (a1 : Nat) (a2 : Int32) (M : kM) : Option (Int32 × kM) :=
  kGd (kLv T (lTm a1)) (kBd (F_58 T ak (some a1) (gq M (lTm a1) 8) a2 M) (fun r5 M6 => some (r5, M6)))
set_option maxHeartbeats 1000000 in
theorem W_59_29 {G : kG} {d : Nat} {A : kLb → Nat} {C : kCl} {P : kO → kH → Prop} {T : kT} {M : kM} {h : kH} {ak : Option Nat → Int32 → kM → Option (Int32 × kM)} {a1 : Nat} {a2 : Int32} {b3 : Option Value} {z : (Int32 × kM)}
    (hk : ∀ {t : Option Nat} {dp : Int32} {M : kM} {h : kH} {z : Int32 × kM}, kRl A T M h → ak t dp M = some z → kRun G (d + 20) 49 [.ref (A lRu), rTm A t, .int dp] h 0 0 (kPI A T z)) (hC : C = kRun G (d + 21)) (R : kRl A T M h) (K : (fun z : (Int32 × kM) => ∀ h1, kRl A T z.2 h1 → P (.inl (some (.int z.1))) h1) z) (hF : F_59_29 T ak a1 a2 M = some z) : kWP G 59 C P 29 [some (.ref (A lRu)), some (.ref (A (lTm a1))), some (.int a2), b3] [] h 0 0 := by
  unfold F_59_29 at hF
  refine k_aload_n (pc := 29) i_59_29 rfl rfl ?_
  refine k_aload_n (pc := 30) i_59_30 rfl rfl ?_
  refine k_aload_n (pc := 31) i_59_31 rfl rfl ?_
  obtain ⟨g4, hF⟩ := kGd_el hF
  refine k_getf (pc := 32) i_59_32 f_3_35 (rd_Tm (i := a1) R g4) rfl ?_
  refine k_iload_n (pc := 35) i_59_35 rfl ?_
  obtain ⟨r5, M6, q7, hF⟩ := kBd_el hF
  refine kcv_I (pc := 36) (As := [.ref (A lRu), .ref (A (lTm a1)), rTm A (gq M (lTm a1) 8), .int a2]) (st := []) (A := A) (T := T) (r := r5) (M1 := M6) i_59_36 m_3_144 rfl rfl rfl rfl (rd_Ru R) rfl (Nat.le_of_ble_eq_true rfl) (hC ▸ D_58 hk R q7) (fun h R => ?_)
  obtain rfl := Option.some.inj hF
  exact k_ireturn (pc := 39) i_59_39 rfl rfl (K _ R)
noncomputable def F_59 (T : kT) (ak : Option Nat → Int32 → kM → Option (Int32 × kM)) (a1 : Option Nat) (a2 : Int32) (M : kM) : Option (Int32 × kM) :=
  kOpt a1 none (fun j1 => kGd (kLv T (lTm j1)) (if (gp M (lTm j1) 14) = 0 then (kBd (F_58 T ak (some j1) (gq M (lTm j1) 7) a2 M) (fun r4 M5 => if r4 = 0 then (F_59_29 T ak j1 a2 (sp M5 (lTm j1) 14 1)) else (some (r4, M5)))) else (F_59_29 T ak j1 a2 M)))
set_option maxHeartbeats 1000000 in
theorem D_59 {G : kG} {d : Nat} {A : kLb → Nat} {T : kT} {M : kM} {h : kH} {ak : Option Nat → Int32 → kM → Option (Int32 × kM)} {a1 : Option Nat} {a2 : Int32} {z : (Int32 × kM)}
    (hk : ∀ {t : Option Nat} {dp : Int32} {M : kM} {h : kH} {z : Int32 × kM}, kRl A T M h → ak t dp M = some z → kRun G (d + 20) 49 [.ref (A lRu), rTm A t, .int dp] h 0 0 (kPI A T z)) (R : kRl A T M h) (hF : F_59 T ak a1 a2 M = some z) : kRun G (d + 22) 59 [.ref (A lRu), rTm A a1, .int a2] h 0 0 (kPI A T z) := by
  refine ⟨⟨by cases a1 <;> rfl, Nat.le_of_ble_eq_true rfl⟩, ?_⟩
  show kWP _ _ (kRun G (d + 21)) _ 0 [some (.ref (A lRu)), some (rTm A a1), some (.int a2), none] [] _ _ _
  have K : (fun z : (Int32 × kM) => ∀ h1, kRl A T z.2 h1 → kPI A T z (.inl (some (.int z.1))) h1) z := fun _ q => ⟨rfl, q⟩
  unfold F_59 at hF
  refine k_aload_n (pc := 0) i_59_0 rfl (rf_is _) ?_
  obtain ⟨j1, rfl, hG⟩ := kOpt_el1 hF
  replace hF := hG
  clear hG
  obtain ⟨g2, hF⟩ := kGd_el hF
  refine k_getf (pc := 1) i_59_1 f_3_141 (rd_Tm (i := j1) R g2) rfl ?_
  refine k_if_ne (pc := 4) (tgt := 29) i_59_4 (by decide) (fun c3 => ?_) (fun c3 => ?_)
  · rw [if_neg c3] at hF
    exact W_59_29 (d := d) hk rfl R K hF
  · rw [if_pos c3] at hF
    refine k_aload_n (pc := 7) i_59_7 rfl rfl ?_
    refine k_aload_n (pc := 8) i_59_8 rfl rfl ?_
    refine k_aload_n (pc := 9) i_59_9 rfl rfl ?_
    refine k_getf (pc := 10) i_59_10 f_3_31 (rd_Tm (i := j1) R g2) rfl ?_
    refine k_iload_n (pc := 13) i_59_13 rfl ?_
    obtain ⟨r4, M5, q6, hF⟩ := kBd_el hF
    refine kcv_I (pc := 14) (As := [.ref (A lRu), .ref (A (lTm j1)), rTm A (gq M (lTm j1) 7), .int a2]) (st := []) (A := A) (T := T) (r := r4) (M1 := M5) i_59_14 m_3_144 rfl rfl rfl rfl (rd_Ru R) rfl (Nat.le_of_ble_eq_true rfl) (D_58 hk R q6) (fun h R => ?_)
    refine k_istore_n (pc := 17) (lo2 := [some (.ref (A lRu)), some (.ref (A (lTm j1))), some (.int a2), some (.int r4)]) i_59_17 (Nat.le_of_ble_eq_true rfl) rfl ?_
    refine k_iload_n (pc := 18) i_59_18 rfl ?_
    refine k_if_eq (pc := 19) (tgt := 24) i_59_19 (by decide) (fun c7 => ?_) (fun c7 => ?_)
    · rw [if_pos c7] at hF
      refine k_aload_n (pc := 24) i_59_24 rfl rfl ?_
      refine k_iconst (pc := 25) (v := 1) i_59_25 (by decide) ?_
      refine k_putf (pc := 26) i_59_26 f_3_141 (rd_Tm (i := j1) R g2) (by decide +kernel) (Nat.le_of_ble_eq_true rfl) rfl rfl rfl (fun h e8 => ?_)
      replace R := kRl_sp (l := (lTm j1)) (k := 14) (v := 1) R g2 e8
      clear e8
      exact W_59_29 (d := d) hk rfl R K hF
    · rw [if_neg c7] at hF
      refine k_iload_n (pc := 22) i_59_22 rfl ?_
      obtain rfl := Option.some.inj hF
      exact k_ireturn (pc := 23) i_59_23 rfl rfl (K _ R)
-- 60: RD$Runner askDistinct
noncomputable def B_60_2 (T : kT) (ak : Option Nat → Int32 → kM → Option (Int32 × kM)) (a1 : Option Nat) (a2 : Int32) (a3 : Int32) (M : kM) : Option ((Int32 × kM) ⊕ (Int32 × kM)) :=
  if 1000000 ≤ a3 then (some (.inr ((2, M)))) else (kOpt a1 none (fun j2 => kGd (kLv T (lTm j2)) (kBd (F_58 T ak (some j2) (gq M (lTm j2) 7) a2 M) (fun r4 M5 => if r4 = 1 then (kBd (F_27 T j2 (lRw j2) M5) (fun r8 M9 => if r8 = 0 then (kBd (F_24 T j2 (lRw j2) M9) (fun r12 M13 => if r12 = 0 then (some (.inr ((3, M13)))) else (some (.inr ((1, M13)))))) else (some (.inl ((a3 + 1), M9))))) else (some (.inr ((r4, M5))))))))
noncomputable def F_60_2 (T : kT) (ak : Option Nat → Int32 → kM → Option (Int32 × kM)) (a1 : Option Nat) (a2 : Int32) (a3 : Int32) (M : kM) : Option (Int32 × kM) :=
  kWh (fun w : (Int32 × kM) => B_60_2 T ak a1 a2 w.1 w.2) (a3, M)
theorem F_60_2_eq (T : kT) (ak : Option Nat → Int32 → kM → Option (Int32 × kM)) (a1 : Option Nat) (a2 : Int32) (a3 : Int32) (M : kM) : F_60_2 T ak a1 a2 a3 M = kAg (B_60_2 T ak a1 a2 a3 M) (fun w => F_60_2 T ak a1 a2 w.1 w.2) := by
  unfold F_60_2
  rw [kWh_eq]
set_option maxHeartbeats 1000000 in
theorem W_60_2 {G : kG} {d : Nat} {A : kLb → Nat} {C : kCl} {P : kO → kH → Prop} {T : kT} {M : kM} {h : kH} {ak : Option Nat → Int32 → kM → Option (Int32 × kM)} {a1 : Option Nat} {a2 : Int32} {a3 : Int32} {b4 : Option Value} {z : (Int32 × kM)}
    (hk : ∀ {t : Option Nat} {dp : Int32} {M : kM} {h : kH} {z : Int32 × kM}, kRl A T M h → ak t dp M = some z → kRun G (d + 20) 49 [.ref (A lRu), rTm A t, .int dp] h 0 0 (kPI A T z)) (hC : C = kRun G (d + 21)) (R : kRl A T M h) (K : (fun z : (Int32 × kM) => ∀ h1, kRl A T z.2 h1 → P (.inl (some (.int z.1))) h1) z) (hF : F_60_2 T ak a1 a2 a3 M = some z) : kWP G 60 C P 2 [some (.ref (A lRu)), some (rTm A a1), some (.int a2), some (.int a3), b4] [] h 0 0 := by
  refine kWh_ind (P := (fun w : (Int32 × kM) => ∀ (h : kH) (b4 : Option Value), kRl A T w.2 h → kWP G 60 C P 2 [some (.ref (A lRu)), some (rTm A a1), some (.int a2), some (.int w.1), b4] [] h 0 0)) (Q := (fun z : (Int32 × kM) => ∀ h1, kRl A T z.2 h1 → P (.inl (some (.int z.1))) h1)) hF K ?_ h _ R
  clear hF K R
  intro w z hF K h b4 R
  obtain ⟨a3, M⟩ := w
  change B_60_2 T ak a1 a2 a3 M = some z at hF
  change kWP G 60 C P 2 [some (.ref (A lRu)), some (rTm A a1), some (.int a2), some (.int a3), b4] [] h 0 0
  unfold B_60_2 at hF
  refine k_iload_n (pc := 2) i_60_2 rfl ?_
  refine k_ldc (pc := 3) (v := 1000000) i_60_3 c_3_107 ?_
  refine k_icmp_ge (pc := 5) (tgt := 69) i_60_5 (by decide) (fun c1 => ?_) (fun c1 => ?_)
  · rw [if_pos c1] at hF
    refine k_iconst (pc := 69) (v := 2) i_60_69 (by decide) ?_
    obtain rfl := Option.some.inj hF
    exact k_ireturn (pc := 70) i_60_70 rfl rfl (K _ R)
  · rw [if_neg c1] at hF
    refine k_aload_n (pc := 8) i_60_8 rfl rfl ?_
    refine k_aload_n (pc := 9) i_60_9 rfl (rf_is _) ?_
    refine k_aload_n (pc := 10) i_60_10 rfl (rf_is _) ?_
    obtain ⟨j2, rfl, hG⟩ := kOpt_el1 hF
    replace hF := hG
    clear hG
    obtain ⟨g3, hF⟩ := kGd_el hF
    refine k_getf (pc := 11) i_60_11 f_3_31 (rd_Tm (i := j2) R g3) rfl ?_
    refine k_iload_n (pc := 14) i_60_14 rfl ?_
    obtain ⟨r4, M5, q6, hF⟩ := kBd_el hF
    refine kcv_I (pc := 15) (As := [.ref (A lRu), .ref (A (lTm j2)), rTm A (gq M (lTm j2) 7), .int a2]) (st := []) (A := A) (T := T) (r := r4) (M1 := M5) i_60_15 m_3_144 rfl rfl rfl rfl (rd_Ru R) rfl (Nat.le_of_ble_eq_true rfl) (hC ▸ D_58 hk R q6) (fun h R => ?_)
    refine k_istore (pc := 18) (lo2 := [some (.ref (A lRu)), some (.ref (A (lTm j2))), some (.int a2), some (.int a3), some (.int r4)]) i_60_18 (Nat.le_of_ble_eq_true rfl) rfl ?_
    refine k_iload (pc := 20) i_60_20 rfl ?_
    refine k_iconst (pc := 22) (v := 1) i_60_22 (by decide) ?_
    refine k_icmp_eq (pc := 23) (tgt := 29) i_60_23 (by decide) (fun c7 => ?_) (fun c7 => ?_)
    · rw [if_pos c7] at hF
      refine k_aload_n (pc := 29) i_60_29 rfl rfl ?_
      refine k_getf (pc := 30) i_60_30 f_3_148 (rd_Tm (i := j2) R g3) rfl ?_
      refine k_aload_n (pc := 33) i_60_33 rfl rfl ?_
      refine k_getf (pc := 34) i_60_34 f_3_99 (rd_Tm (i := j2) R g3) rfl ?_
      obtain ⟨r8, M9, q10, hF⟩ := kBd_el hF
      refine kcv_I (pc := 37) (As := [.ref (A (lKp j2)), .ref (A (lRw j2))]) (st := []) (A := A) (T := T) (r := r8) (M1 := M9) i_60_37 m_3_152 rfl rfl rfl rfl (rd_Kp (i := j2) R g3) rfl (Nat.le_of_ble_eq_true rfl) (hC ▸ D_27 R q10) (fun h R => ?_)
      refine k_if_ne (pc := 40) (tgt := 63) i_60_40 (by decide) (fun c11 => ?_) (fun c11 => ?_)
      · rw [if_neg c11] at hF
        refine k_iinc (pc := 63) (v := a3 + 1) (lo2 := [some (.ref (A lRu)), some (.ref (A (lTm j2))), some (.int a2), some (.int (a3 + 1)), some (.int r4)]) i_60_63 rfl rfl rfl ?_
        refine k_goto (pc := 66) (tgt := 2) i_60_66 (by decide) ?_
        obtain rfl := Option.some.inj hF
        exact K _ _ R
      · rw [if_pos c11] at hF
        refine k_aload_n (pc := 43) i_60_43 rfl rfl ?_
        refine k_getf (pc := 44) i_60_44 f_3_148 (rd_Tm (i := j2) R g3) rfl ?_
        refine k_aload_n (pc := 47) i_60_47 rfl rfl ?_
        refine k_getf (pc := 48) i_60_48 f_3_99 (rd_Tm (i := j2) R g3) rfl ?_
        obtain ⟨r12, M13, q14, hF⟩ := kBd_el hF
        refine kcv_I (pc := 51) (As := [.ref (A (lKp j2)), .ref (A (lRw j2))]) (st := []) (A := A) (T := T) (r := r12) (M1 := M13) i_60_51 m_3_158 rfl rfl rfl rfl (rd_Kp (i := j2) R g3) rfl (Nat.le_of_ble_eq_true rfl) (hC ▸ D_24 R q14) (fun h R => ?_)
        refine k_if_eq (pc := 54) (tgt := 61) i_60_54 (by decide) (fun c15 => ?_) (fun c15 => ?_)
        · rw [if_pos c15] at hF
          refine k_iconst (pc := 61) (v := 3) i_60_61 (by decide) ?_
          obtain rfl := Option.some.inj hF
          exact k_ireturn (pc := 62) i_60_62 rfl rfl (K _ R)
        · rw [if_neg c15] at hF
          refine k_iconst (pc := 57) (v := 1) i_60_57 (by decide) ?_
          refine k_goto (pc := 58) (tgt := 62) i_60_58 (by decide) ?_
          obtain rfl := Option.some.inj hF
          exact k_ireturn (pc := 62) i_60_62 rfl rfl (K _ R)
    · rw [if_neg c7] at hF
      refine k_iload (pc := 26) i_60_26 rfl ?_
      obtain rfl := Option.some.inj hF
      exact k_ireturn (pc := 28) i_60_28 rfl rfl (K _ R)
noncomputable def F_60 (T : kT) (ak : Option Nat → Int32 → kM → Option (Int32 × kM)) (a1 : Option Nat) (a2 : Int32) (M : kM) : Option (Int32 × kM) :=
  F_60_2 T ak a1 a2 0 M
set_option maxHeartbeats 1000000 in
theorem D_60 {G : kG} {d : Nat} {A : kLb → Nat} {T : kT} {M : kM} {h : kH} {ak : Option Nat → Int32 → kM → Option (Int32 × kM)} {a1 : Option Nat} {a2 : Int32} {z : (Int32 × kM)}
    (hk : ∀ {t : Option Nat} {dp : Int32} {M : kM} {h : kH} {z : Int32 × kM}, kRl A T M h → ak t dp M = some z → kRun G (d + 20) 49 [.ref (A lRu), rTm A t, .int dp] h 0 0 (kPI A T z)) (R : kRl A T M h) (hF : F_60 T ak a1 a2 M = some z) : kRun G (d + 22) 60 [.ref (A lRu), rTm A a1, .int a2] h 0 0 (kPI A T z) := by
  refine ⟨⟨by cases a1 <;> rfl, Nat.le_of_ble_eq_true rfl⟩, ?_⟩
  show kWP _ _ (kRun G (d + 21)) _ 0 [some (.ref (A lRu)), some (rTm A a1), some (.int a2), none, none] [] _ _ _
  have K : (fun z : (Int32 × kM) => ∀ h1, kRl A T z.2 h1 → kPI A T z (.inl (some (.int z.1))) h1) z := fun _ q => ⟨rfl, q⟩
  unfold F_60 at hF
  refine k_iconst (pc := 0) (v := 0) i_60_0 (by decide) ?_
  refine k_istore_n (pc := 1) (lo2 := [some (.ref (A lRu)), some (rTm A a1), some (.int a2), some (.int 0), none]) i_60_1 (Nat.le_of_ble_eq_true rfl) rfl ?_
  exact W_60_2 (d := d) hk rfl R K hF
-- 61: RD$Runner askLimit
noncomputable def F_61 (T : kT) (ak : Option Nat → Int32 → kM → Option (Int32 × kM)) (a1 : Option Nat) (a2 : Int32) (M : kM) : Option (Int32 × kM) :=
  kOpt a1 none (fun j1 => kGd (kLv T (lTm j1)) (if (gp M (lTm j1) 12) < (gp M (lTm j1) 4) then (kBd (F_58 T ak (some j1) (gq M (lTm j1) 7) a2 M) (fun r4 M5 => if r4 = 1 then (some (r4, sp M5 (lTm j1) 12 ((gp M5 (lTm j1) 12) + 1))) else (some (r4, M5)))) else (some (0, M))))
set_option maxHeartbeats 1000000 in
theorem D_61 {G : kG} {d : Nat} {A : kLb → Nat} {T : kT} {M : kM} {h : kH} {ak : Option Nat → Int32 → kM → Option (Int32 × kM)} {a1 : Option Nat} {a2 : Int32} {z : (Int32 × kM)}
    (hk : ∀ {t : Option Nat} {dp : Int32} {M : kM} {h : kH} {z : Int32 × kM}, kRl A T M h → ak t dp M = some z → kRun G (d + 20) 49 [.ref (A lRu), rTm A t, .int dp] h 0 0 (kPI A T z)) (R : kRl A T M h) (hF : F_61 T ak a1 a2 M = some z) : kRun G (d + 22) 61 [.ref (A lRu), rTm A a1, .int a2] h 0 0 (kPI A T z) := by
  refine ⟨⟨by cases a1 <;> rfl, Nat.le_of_ble_eq_true rfl⟩, ?_⟩
  show kWP _ _ (kRun G (d + 21)) _ 0 [some (.ref (A lRu)), some (rTm A a1), some (.int a2), none] [] _ _ _
  have K : (fun z : (Int32 × kM) => ∀ h1, kRl A T z.2 h1 → kPI A T z (.inl (some (.int z.1))) h1) z := fun _ q => ⟨rfl, q⟩
  unfold F_61 at hF
  refine k_aload_n (pc := 0) i_61_0 rfl (rf_is _) ?_
  obtain ⟨j1, rfl, hG⟩ := kOpt_el1 hF
  replace hF := hG
  clear hG
  obtain ⟨g2, hF⟩ := kGd_el hF
  refine k_getf (pc := 1) i_61_1 f_3_76 (rd_Tm (i := j1) R g2) rfl ?_
  refine k_aload_n (pc := 4) i_61_4 rfl rfl ?_
  refine k_getf (pc := 5) i_61_5 f_3_86 (rd_Tm (i := j1) R g2) rfl ?_
  refine k_icmp_lt (pc := 8) (tgt := 13) i_61_8 (by decide) (fun c3 => ?_) (fun c3 => ?_)
  · rw [if_pos c3] at hF
    refine k_aload_n (pc := 13) i_61_13 rfl rfl ?_
    refine k_aload_n (pc := 14) i_61_14 rfl rfl ?_
    refine k_aload_n (pc := 15) i_61_15 rfl rfl ?_
    refine k_getf (pc := 16) i_61_16 f_3_31 (rd_Tm (i := j1) R g2) rfl ?_
    refine k_iload_n (pc := 19) i_61_19 rfl ?_
    obtain ⟨r4, M5, q6, hF⟩ := kBd_el hF
    refine kcv_I (pc := 20) (As := [.ref (A lRu), .ref (A (lTm j1)), rTm A (gq M (lTm j1) 7), .int a2]) (st := []) (A := A) (T := T) (r := r4) (M1 := M5) i_61_20 m_3_144 rfl rfl rfl rfl (rd_Ru R) rfl (Nat.le_of_ble_eq_true rfl) (D_58 hk R q6) (fun h R => ?_)
    refine k_istore_n (pc := 23) (lo2 := [some (.ref (A lRu)), some (.ref (A (lTm j1))), some (.int a2), some (.int r4)]) i_61_23 (Nat.le_of_ble_eq_true rfl) rfl ?_
    refine k_iload_n (pc := 24) i_61_24 rfl ?_
    refine k_iconst (pc := 25) (v := 1) i_61_25 (by decide) ?_
    refine k_icmp_ne (pc := 26) (tgt := 39) i_61_26 (by decide) (fun c7 => ?_) (fun c7 => ?_)
    · rw [if_neg c7] at hF
      refine k_iload_n (pc := 39) i_61_39 rfl ?_
      obtain rfl := Option.some.inj hF
      exact k_ireturn (pc := 40) i_61_40 rfl rfl (K _ R)
    · rw [if_pos c7] at hF
      refine k_aload_n (pc := 29) i_61_29 rfl rfl ?_
      refine k_dup (pc := 30) i_61_30 rfl ?_
      refine k_getf (pc := 31) i_61_31 f_3_76 (rd_Tm (i := j1) R g2) rfl ?_
      refine k_iconst (pc := 34) (v := 1) i_61_34 (by decide) ?_
      refine k_iadd (pc := 35) i_61_35 ?_
      refine k_putf (pc := 36) i_61_36 f_3_76 (rd_Tm (i := j1) R g2) (by decide +kernel) (Nat.le_of_ble_eq_true rfl) rfl rfl rfl (fun h e8 => ?_)
      replace R := kRl_sp (l := (lTm j1)) (k := 12) (v := (gp M5 (lTm j1) 12) + 1) R g2 e8
      clear e8
      refine k_iload_n (pc := 39) i_61_39 rfl ?_
      obtain rfl := Option.some.inj hF
      exact k_ireturn (pc := 40) i_61_40 rfl rfl (K _ R)
  · rw [if_neg c3] at hF
    refine k_iconst (pc := 11) (v := 0) i_61_11 (by decide) ?_
    obtain rfl := Option.some.inj hF
    exact k_ireturn (pc := 12) i_61_12 rfl rfl (K _ R)
-- 64: RD$Runner gather
noncomputable def B_64_2 (T : kT) (ak : Option Nat → Int32 → kM → Option (Int32 × kM)) (a1 : Option Nat) (a2 : Int32) (a3 : Int32) (M : kM) : Option ((Int32 × kM) ⊕ (Int32 × kM)) :=
  if 1000000 ≤ a3 then (some (.inr ((2, M)))) else (kOpt a1 none (fun j2 => kGd (kLv T (lTm j2)) (kBd (ak (gq M (lTm j2) 7) (a2 + 1) M) (fun r4 M5 => if r4 = 1 then (kBd (F_65 T (some j2) M5) (fun r8 M9 => if r8 = 0 then (some (.inr ((3, M9)))) else (some (.inl ((a3 + 1), M9))))) else (some (.inr ((r4, M5))))))))
noncomputable def F_64_2 (T : kT) (ak : Option Nat → Int32 → kM → Option (Int32 × kM)) (a1 : Option Nat) (a2 : Int32) (a3 : Int32) (M : kM) : Option (Int32 × kM) :=
  kWh (fun w : (Int32 × kM) => B_64_2 T ak a1 a2 w.1 w.2) (a3, M)
theorem F_64_2_eq (T : kT) (ak : Option Nat → Int32 → kM → Option (Int32 × kM)) (a1 : Option Nat) (a2 : Int32) (a3 : Int32) (M : kM) : F_64_2 T ak a1 a2 a3 M = kAg (B_64_2 T ak a1 a2 a3 M) (fun w => F_64_2 T ak a1 a2 w.1 w.2) := by
  unfold F_64_2
  rw [kWh_eq]
set_option maxHeartbeats 1000000 in
theorem W_64_2 {G : kG} {d : Nat} {A : kLb → Nat} {C : kCl} {P : kO → kH → Prop} {T : kT} {M : kM} {h : kH} {ak : Option Nat → Int32 → kM → Option (Int32 × kM)} {a1 : Option Nat} {a2 : Int32} {a3 : Int32} {b4 : Option Value} {z : (Int32 × kM)}
    (hk : ∀ {t : Option Nat} {dp : Int32} {M : kM} {h : kH} {z : Int32 × kM}, kRl A T M h → ak t dp M = some z → kRun G (d + 20) 49 [.ref (A lRu), rTm A t, .int dp] h 0 0 (kPI A T z)) (hC : C = kRun G (d + 20)) (R : kRl A T M h) (K : (fun z : (Int32 × kM) => ∀ h1, kRl A T z.2 h1 → P (.inl (some (.int z.1))) h1) z) (hF : F_64_2 T ak a1 a2 a3 M = some z) : kWP G 64 C P 2 [some (.ref (A lRu)), some (rTm A a1), some (.int a2), some (.int a3), b4] [] h 0 0 := by
  refine kWh_ind (P := (fun w : (Int32 × kM) => ∀ (h : kH) (b4 : Option Value), kRl A T w.2 h → kWP G 64 C P 2 [some (.ref (A lRu)), some (rTm A a1), some (.int a2), some (.int w.1), b4] [] h 0 0)) (Q := (fun z : (Int32 × kM) => ∀ h1, kRl A T z.2 h1 → P (.inl (some (.int z.1))) h1)) hF K ?_ h _ R
  clear hF K R
  intro w z hF K h b4 R
  obtain ⟨a3, M⟩ := w
  change B_64_2 T ak a1 a2 a3 M = some z at hF
  change kWP G 64 C P 2 [some (.ref (A lRu)), some (rTm A a1), some (.int a2), some (.int a3), b4] [] h 0 0
  unfold B_64_2 at hF
  refine k_iload_n (pc := 2) i_64_2 rfl ?_
  refine k_ldc (pc := 3) (v := 1000000) i_64_3 c_3_107 ?_
  refine k_icmp_ge (pc := 5) (tgt := 45) i_64_5 (by decide) (fun c1 => ?_) (fun c1 => ?_)
  · rw [if_pos c1] at hF
    refine k_iconst (pc := 45) (v := 2) i_64_45 (by decide) ?_
    obtain rfl := Option.some.inj hF
    exact k_ireturn (pc := 46) i_64_46 rfl rfl (K _ R)
  · rw [if_neg c1] at hF
    refine k_aload_n (pc := 8) i_64_8 rfl rfl ?_
    refine k_aload_n (pc := 9) i_64_9 rfl (rf_is _) ?_
    obtain ⟨j2, rfl, hG⟩ := kOpt_el1 hF
    replace hF := hG
    clear hG
    obtain ⟨g3, hF⟩ := kGd_el hF
    refine k_getf (pc := 10) i_64_10 f_3_31 (rd_Tm (i := j2) R g3) rfl ?_
    refine k_iload_n (pc := 13) i_64_13 rfl ?_
    refine k_iconst (pc := 14) (v := 1) i_64_14 (by decide) ?_
    refine k_iadd (pc := 15) i_64_15 ?_
    obtain ⟨r4, M5, q6, hF⟩ := kBd_el hF
    refine kcv_I (pc := 16) (As := [.ref (A lRu), rTm A (gq M (lTm j2) 7), .int (a2 + 1)]) (st := []) (A := A) (T := T) (r := r4) (M1 := M5) i_64_16 m_3_22 rfl rfl rfl rfl (rd_Ru R) rfl (Nat.le_of_ble_eq_true rfl) (hC ▸ hk R q6) (fun h R => ?_)
    refine k_istore (pc := 19) (lo2 := [some (.ref (A lRu)), some (.ref (A (lTm j2))), some (.int a2), some (.int a3), some (.int r4)]) i_64_19 (Nat.le_of_ble_eq_true rfl) rfl ?_
    refine k_iload (pc := 21) i_64_21 rfl ?_
    refine k_iconst (pc := 23) (v := 1) i_64_23 (by decide) ?_
    refine k_icmp_eq (pc := 24) (tgt := 30) i_64_24 (by decide) (fun c7 => ?_) (fun c7 => ?_)
    · rw [if_pos c7] at hF
      refine k_aload_n (pc := 30) i_64_30 rfl rfl ?_
      obtain ⟨r8, M9, q10, hF⟩ := kBd_el hF
      refine kcs_I (pc := 31) (As := [.ref (A (lTm j2))]) (st := []) (A := A) (T := T) (r := r8) (M1 := M9) i_64_31 m_3_171 rfl rfl rfl (Nat.le_of_ble_eq_true rfl) (hC ▸ D_65 R q10) (fun h R => ?_)
      refine k_if_ne (pc := 34) (tgt := 39) i_64_34 (by decide) (fun c11 => ?_) (fun c11 => ?_)
      · rw [if_neg c11] at hF
        refine k_iinc (pc := 39) (v := a3 + 1) (lo2 := [some (.ref (A lRu)), some (.ref (A (lTm j2))), some (.int a2), some (.int (a3 + 1)), some (.int r4)]) i_64_39 rfl rfl rfl ?_
        refine k_goto (pc := 42) (tgt := 2) i_64_42 (by decide) ?_
        obtain rfl := Option.some.inj hF
        exact K _ _ R
      · rw [if_pos c11] at hF
        refine k_iconst (pc := 37) (v := 3) i_64_37 (by decide) ?_
        obtain rfl := Option.some.inj hF
        exact k_ireturn (pc := 38) i_64_38 rfl rfl (K _ R)
    · rw [if_neg c7] at hF
      refine k_iload (pc := 27) i_64_27 rfl ?_
      obtain rfl := Option.some.inj hF
      exact k_ireturn (pc := 29) i_64_29 rfl rfl (K _ R)
noncomputable def F_64 (T : kT) (ak : Option Nat → Int32 → kM → Option (Int32 × kM)) (a1 : Option Nat) (a2 : Int32) (M : kM) : Option (Int32 × kM) :=
  F_64_2 T ak a1 a2 0 M
set_option maxHeartbeats 1000000 in
theorem D_64 {G : kG} {d : Nat} {A : kLb → Nat} {T : kT} {M : kM} {h : kH} {ak : Option Nat → Int32 → kM → Option (Int32 × kM)} {a1 : Option Nat} {a2 : Int32} {z : (Int32 × kM)}
    (hk : ∀ {t : Option Nat} {dp : Int32} {M : kM} {h : kH} {z : Int32 × kM}, kRl A T M h → ak t dp M = some z → kRun G (d + 20) 49 [.ref (A lRu), rTm A t, .int dp] h 0 0 (kPI A T z)) (R : kRl A T M h) (hF : F_64 T ak a1 a2 M = some z) : kRun G (d + 21) 64 [.ref (A lRu), rTm A a1, .int a2] h 0 0 (kPI A T z) := by
  refine ⟨⟨by cases a1 <;> rfl, Nat.le_of_ble_eq_true rfl⟩, ?_⟩
  show kWP _ _ (kRun G (d + 20)) _ 0 [some (.ref (A lRu)), some (rTm A a1), some (.int a2), none, none] [] _ _ _
  have K : (fun z : (Int32 × kM) => ∀ h1, kRl A T z.2 h1 → kPI A T z (.inl (some (.int z.1))) h1) z := fun _ q => ⟨rfl, q⟩
  unfold F_64 at hF
  refine k_iconst (pc := 0) (v := 0) i_64_0 (by decide) ?_
  refine k_istore_n (pc := 1) (lo2 := [some (.ref (A lRu)), some (rTm A a1), some (.int a2), some (.int 0), none]) i_64_1 (Nat.le_of_ble_eq_true rfl) rfl ?_
  exact W_64_2 (d := d) hk rfl R K hF
-- 62: RD$Runner askCount
noncomputable def F_62 (T : kT) (ak : Option Nat → Int32 → kM → Option (Int32 × kM)) (a1 : Option Nat) (a2 : Int32) (M : kM) : Option (Int32 × kM) :=
  kOpt a1 none (fun j1 => kGd (kLv T (lTm j1)) (if (gp M (lTm j1) 15) = 0 then (kBd (F_64 T ak (some j1) a2 M) (fun r4 M5 => if r4 = 0 then (kGx 0 12 (some (1, sp (sp M5 (lTm j1) 15 1) (lRw j1) (0 : Int32).toNatClampNeg (gp (sp M5 (lTm j1) 15 1) (lTm j1) 12)))) else (some (r4, M5)))) else (some (0, M))))
set_option maxHeartbeats 1000000 in
theorem D_62 {G : kG} {d : Nat} {A : kLb → Nat} {T : kT} {M : kM} {h : kH} {ak : Option Nat → Int32 → kM → Option (Int32 × kM)} {a1 : Option Nat} {a2 : Int32} {z : (Int32 × kM)}
    (hk : ∀ {t : Option Nat} {dp : Int32} {M : kM} {h : kH} {z : Int32 × kM}, kRl A T M h → ak t dp M = some z → kRun G (d + 20) 49 [.ref (A lRu), rTm A t, .int dp] h 0 0 (kPI A T z)) (R : kRl A T M h) (hF : F_62 T ak a1 a2 M = some z) : kRun G (d + 22) 62 [.ref (A lRu), rTm A a1, .int a2] h 0 0 (kPI A T z) := by
  refine ⟨⟨by cases a1 <;> rfl, Nat.le_of_ble_eq_true rfl⟩, ?_⟩
  show kWP _ _ (kRun G (d + 21)) _ 0 [some (.ref (A lRu)), some (rTm A a1), some (.int a2), none] [] _ _ _
  have K : (fun z : (Int32 × kM) => ∀ h1, kRl A T z.2 h1 → kPI A T z (.inl (some (.int z.1))) h1) z := fun _ q => ⟨rfl, q⟩
  unfold F_62 at hF
  refine k_aload_n (pc := 0) i_62_0 rfl (rf_is _) ?_
  obtain ⟨j1, rfl, hG⟩ := kOpt_el1 hF
  replace hF := hG
  clear hG
  obtain ⟨g2, hF⟩ := kGd_el hF
  refine k_getf (pc := 1) i_62_1 f_3_161 (rd_Tm (i := j1) R g2) rfl ?_
  refine k_if_eq (pc := 4) (tgt := 9) i_62_4 (by decide) (fun c3 => ?_) (fun c3 => ?_)
  · rw [if_pos c3] at hF
    refine k_aload_n (pc := 9) i_62_9 rfl rfl ?_
    refine k_aload_n (pc := 10) i_62_10 rfl rfl ?_
    refine k_iload_n (pc := 11) i_62_11 rfl ?_
    obtain ⟨r4, M5, q6, hF⟩ := kBd_el hF
    refine kcv_I (pc := 12) (As := [.ref (A lRu), .ref (A (lTm j1)), .int a2]) (st := []) (A := A) (T := T) (r := r4) (M1 := M5) i_62_12 m_3_164 rfl rfl rfl rfl (rd_Ru R) rfl (Nat.le_of_ble_eq_true rfl) (D_64 hk R q6) (fun h R => ?_)
    refine k_istore_n (pc := 15) (lo2 := [some (.ref (A lRu)), some (.ref (A (lTm j1))), some (.int a2), some (.int r4)]) i_62_15 (Nat.le_of_ble_eq_true rfl) rfl ?_
    refine k_iload_n (pc := 16) i_62_16 rfl ?_
    refine k_if_eq (pc := 17) (tgt := 22) i_62_17 (by decide) (fun c7 => ?_) (fun c7 => ?_)
    · rw [if_pos c7] at hF
      refine k_aload_n (pc := 22) i_62_22 rfl rfl ?_
      refine k_iconst (pc := 23) (v := 1) i_62_23 (by decide) ?_
      refine k_putf (pc := 24) i_62_24 f_3_161 (rd_Tm (i := j1) R g2) (by decide +kernel) (Nat.le_of_ble_eq_true rfl) rfl rfl rfl (fun h e8 => ?_)
      replace R := kRl_sp (l := (lTm j1)) (k := 15) (v := 1) R g2 e8
      clear e8
      refine k_aload_n (pc := 27) i_62_27 rfl rfl ?_
      refine k_getf (pc := 28) i_62_28 f_3_99 (rd_Tm (i := j1) R g2) rfl ?_
      refine k_iconst (pc := 31) (v := 0) i_62_31 (by decide) ?_
      refine k_aload_n (pc := 32) i_62_32 rfl rfl ?_
      refine k_getf (pc := 33) i_62_33 f_3_76 (rd_Tm (i := j1) R g2) rfl ?_
      obtain ⟨g9, hF⟩ := kGx_el hF
      refine k_iast (pc := 36) i_62_36 (rd_Rw (i := j1) R g2) g9 (fun h e10 => ?_)
      replace R := kRl_sp (l := (lRw j1)) (k := (0 : Int32).toNatClampNeg) (v := gp (sp M5 (lTm j1) 15 1) (lTm j1) 12) R g2 e10
      clear e10
      refine k_iconst (pc := 37) (v := 1) i_62_37 (by decide) ?_
      obtain rfl := Option.some.inj hF
      exact k_ireturn (pc := 38) i_62_38 rfl rfl (K _ R)
    · rw [if_neg c7] at hF
      refine k_iload_n (pc := 20) i_62_20 rfl ?_
      obtain rfl := Option.some.inj hF
      exact k_ireturn (pc := 21) i_62_21 rfl rfl (K _ R)
  · rw [if_neg c3] at hF
    refine k_iconst (pc := 7) (v := 0) i_62_7 (by decide) ?_
    obtain rfl := Option.some.inj hF
    exact k_ireturn (pc := 8) i_62_8 rfl rfl (K _ R)
-- 63: RD$Runner askGathered
noncomputable def F_63_25 (T : kT) (ak : Option Nat → Int32 → kM → Option (Int32 × kM)) (a1 : Nat) (M : kM) : Option (Int32 × kM) :=
  kGd (kLv T (lTm a1)) (if (gp M (lTm a1) 12) < (gp M (lKp a1) 3) then (kBd (F_23 T a1 (gp M (lTm a1) 12) (lRw a1) M) (fun r6 M7 => some (1, sp M7 (lTm a1) 12 ((gp M7 (lTm a1) 12) + 1)))) else (some (0, M)))
set_option maxHeartbeats 1000000 in
theorem W_63_25 {G : kG} {d : Nat} {A : kLb → Nat} {C : kCl} {P : kO → kH → Prop} {T : kT} {M : kM} {h : kH} {ak : Option Nat → Int32 → kM → Option (Int32 × kM)} {a1 : Nat} {b0 b2 b3 : Option Value} {z : (Int32 × kM)}
    (hk : ∀ {t : Option Nat} {dp : Int32} {M : kM} {h : kH} {z : Int32 × kM}, kRl A T M h → ak t dp M = some z → kRun G (d + 20) 49 [.ref (A lRu), rTm A t, .int dp] h 0 0 (kPI A T z)) (hC : C = kRun G (d + 21)) (R : kRl A T M h) (K : (fun z : (Int32 × kM) => ∀ h1, kRl A T z.2 h1 → P (.inl (some (.int z.1))) h1) z) (hF : F_63_25 T ak a1 M = some z) : kWP G 63 C P 25 [b0, some (.ref (A (lTm a1))), b2, b3] [] h 0 0 := by
  unfold F_63_25 at hF
  refine k_aload_n (pc := 25) i_63_25 rfl rfl ?_
  obtain ⟨g4, hF⟩ := kGd_el hF
  refine k_getf (pc := 26) i_63_26 f_3_76 (rd_Tm (i := a1) R g4) rfl ?_
  refine k_aload_n (pc := 29) i_63_29 rfl rfl ?_
  refine k_getf (pc := 30) i_63_30 f_3_148 (rd_Tm (i := a1) R g4) rfl ?_
  refine k_getf (pc := 33) i_63_33 f_3_167 (rd_Kp (i := a1) R g4) rfl ?_
  refine k_icmp_lt (pc := 36) (tgt := 41) i_63_36 (by decide) (fun c5 => ?_) (fun c5 => ?_)
  · rw [if_pos c5] at hF
    refine k_aload_n (pc := 41) i_63_41 rfl rfl ?_
    refine k_getf (pc := 42) i_63_42 f_3_148 (rd_Tm (i := a1) R g4) rfl ?_
    refine k_aload_n (pc := 45) i_63_45 rfl rfl ?_
    refine k_getf (pc := 46) i_63_46 f_3_76 (rd_Tm (i := a1) R g4) rfl ?_
    refine k_aload_n (pc := 49) i_63_49 rfl rfl ?_
    refine k_getf (pc := 50) i_63_50 f_3_99 (rd_Tm (i := a1) R g4) rfl ?_
    obtain ⟨r6, M7, q8, hF⟩ := kBd_el hF
    refine kcv_V (pc := 53) (As := [.ref (A (lKp a1)), .int (gp M (lTm a1) 12), .ref (A (lRw a1))]) (st := []) (A := A) (T := T) (r := r6) (M1 := M7) i_63_53 m_3_170 rfl rfl rfl rfl (rd_Kp (i := a1) R g4) rfl (Nat.le_of_ble_eq_true rfl) (hC ▸ D_23 R q8) (fun h R => ?_)
    refine k_aload_n (pc := 56) i_63_56 rfl rfl ?_
    refine k_dup (pc := 57) i_63_57 rfl ?_
    refine k_getf (pc := 58) i_63_58 f_3_76 (rd_Tm (i := a1) R g4) rfl ?_
    refine k_iconst (pc := 61) (v := 1) i_63_61 (by decide) ?_
    refine k_iadd (pc := 62) i_63_62 ?_
    refine k_putf (pc := 63) i_63_63 f_3_76 (rd_Tm (i := a1) R g4) (by decide +kernel) (Nat.le_of_ble_eq_true rfl) rfl rfl rfl (fun h e9 => ?_)
    replace R := kRl_sp (l := (lTm a1)) (k := 12) (v := (gp M7 (lTm a1) 12) + 1) R g4 e9
    clear e9
    refine k_iconst (pc := 66) (v := 1) i_63_66 (by decide) ?_
    obtain rfl := Option.some.inj hF
    exact k_ireturn (pc := 67) i_63_67 rfl rfl (K _ R)
  · rw [if_neg c5] at hF
    refine k_iconst (pc := 39) (v := 0) i_63_39 (by decide) ?_
    obtain rfl := Option.some.inj hF
    exact k_ireturn (pc := 40) i_63_40 rfl rfl (K _ R)
noncomputable def F_63 (T : kT) (ak : Option Nat → Int32 → kM → Option (Int32 × kM)) (a1 : Option Nat) (a2 : Int32) (M : kM) : Option (Int32 × kM) :=
  kOpt a1 none (fun j1 => kGd (kLv T (lTm j1)) (if (gp M (lTm j1) 15) = 0 then (kBd (F_64 T ak (some j1) a2 M) (fun r4 M5 => if r4 = 0 then (F_63_25 T ak j1 (sp M5 (lTm j1) 15 1)) else (some (r4, M5)))) else (F_63_25 T ak j1 M)))
set_option maxHeartbeats 1000000 in
theorem D_63 {G : kG} {d : Nat} {A : kLb → Nat} {T : kT} {M : kM} {h : kH} {ak : Option Nat → Int32 → kM → Option (Int32 × kM)} {a1 : Option Nat} {a2 : Int32} {z : (Int32 × kM)}
    (hk : ∀ {t : Option Nat} {dp : Int32} {M : kM} {h : kH} {z : Int32 × kM}, kRl A T M h → ak t dp M = some z → kRun G (d + 20) 49 [.ref (A lRu), rTm A t, .int dp] h 0 0 (kPI A T z)) (R : kRl A T M h) (hF : F_63 T ak a1 a2 M = some z) : kRun G (d + 22) 63 [.ref (A lRu), rTm A a1, .int a2] h 0 0 (kPI A T z) := by
  refine ⟨⟨by cases a1 <;> rfl, Nat.le_of_ble_eq_true rfl⟩, ?_⟩
  show kWP _ _ (kRun G (d + 21)) _ 0 [some (.ref (A lRu)), some (rTm A a1), some (.int a2), none] [] _ _ _
  have K : (fun z : (Int32 × kM) => ∀ h1, kRl A T z.2 h1 → kPI A T z (.inl (some (.int z.1))) h1) z := fun _ q => ⟨rfl, q⟩
  unfold F_63 at hF
  refine k_aload_n (pc := 0) i_63_0 rfl (rf_is _) ?_
  obtain ⟨j1, rfl, hG⟩ := kOpt_el1 hF
  replace hF := hG
  clear hG
  obtain ⟨g2, hF⟩ := kGd_el hF
  refine k_getf (pc := 1) i_63_1 f_3_161 (rd_Tm (i := j1) R g2) rfl ?_
  refine k_if_ne (pc := 4) (tgt := 25) i_63_4 (by decide) (fun c3 => ?_) (fun c3 => ?_)
  · rw [if_neg c3] at hF
    exact W_63_25 (d := d) hk rfl R K hF
  · rw [if_pos c3] at hF
    refine k_aload_n (pc := 7) i_63_7 rfl rfl ?_
    refine k_aload_n (pc := 8) i_63_8 rfl rfl ?_
    refine k_iload_n (pc := 9) i_63_9 rfl ?_
    obtain ⟨r4, M5, q6, hF⟩ := kBd_el hF
    refine kcv_I (pc := 10) (As := [.ref (A lRu), .ref (A (lTm j1)), .int a2]) (st := []) (A := A) (T := T) (r := r4) (M1 := M5) i_63_10 m_3_164 rfl rfl rfl rfl (rd_Ru R) rfl (Nat.le_of_ble_eq_true rfl) (D_64 hk R q6) (fun h R => ?_)
    refine k_istore_n (pc := 13) (lo2 := [some (.ref (A lRu)), some (.ref (A (lTm j1))), some (.int a2), some (.int r4)]) i_63_13 (Nat.le_of_ble_eq_true rfl) rfl ?_
    refine k_iload_n (pc := 14) i_63_14 rfl ?_
    refine k_if_eq (pc := 15) (tgt := 20) i_63_15 (by decide) (fun c7 => ?_) (fun c7 => ?_)
    · rw [if_pos c7] at hF
      refine k_aload_n (pc := 20) i_63_20 rfl rfl ?_
      refine k_iconst (pc := 21) (v := 1) i_63_21 (by decide) ?_
      refine k_putf (pc := 22) i_63_22 f_3_161 (rd_Tm (i := j1) R g2) (by decide +kernel) (Nat.le_of_ble_eq_true rfl) rfl rfl rfl (fun h e8 => ?_)
      replace R := kRl_sp (l := (lTm j1)) (k := 15) (v := 1) R g2 e8
      clear e8
      exact W_63_25 (d := d) hk rfl R K hF
    · rw [if_neg c7] at hF
      refine k_iload_n (pc := 18) i_63_18 rfl ?_
      obtain rfl := Option.some.inj hF
      exact k_ireturn (pc := 19) i_63_19 rfl rfl (K _ R)
-- 49: RD$Runner ask
noncomputable def F_49 (T : kT) (ak : Option Nat → Int32 → kM → Option (Int32 × kM)) (a1 : Option Nat) (a2 : Int32) (M : kM) : Option (Int32 × kM) :=
  kOpt a1 (some (0, M)) (fun j1 => if a2 < 10 then (kGd (kLv T (lTm j1)) (if (gp M (lTm j1) 0) = 0 then (kBd (F_50 T (some j1) M) (fun r6 M7 => some (r6, M7))) else (if (gp M (lTm j1) 0) = 1 then (kOpt (gq M (lTm j1) 6) (kBd (F_53 T ak (some j1) a2 M) (fun r12 M13 => some (r12, M13))) (fun j10 => kBd (F_51 T (some j1) M) (fun r15 M16 => some (r15, M16)))) else (if (gp M (lTm j1) 0) = 2 then (kBd (F_55 T ak (some j1) a2 M) (fun r19 M20 => some (r19, M20))) else (if (gp M (lTm j1) 0) = 3 then (kBd (F_56 T ak (some j1) a2 M) (fun r23 M24 => some (r23, M24))) else (if (gp M (lTm j1) 0) = 4 then (kBd (F_56 T ak (some j1) a2 M) (fun r27 M28 => some (r27, M28))) else (if (gp M (lTm j1) 0) = 5 then (kBd (F_59 T ak (some j1) a2 M) (fun r31 M32 => some (r31, M32))) else (if (gp M (lTm j1) 0) = 6 then (kBd (F_60 T ak (some j1) a2 M) (fun r35 M36 => some (r35, M36))) else (if (gp M (lTm j1) 0) = 7 then (kBd (F_63 T ak (some j1) a2 M) (fun r39 M40 => some (r39, M40))) else (if (gp M (lTm j1) 0) = 8 then (kBd (F_61 T ak (some j1) a2 M) (fun r43 M44 => some (r43, M44))) else (if (gp M (lTm j1) 0) = 9 then (kBd (F_62 T ak (some j1) a2 M) (fun r47 M48 => some (r47, M48))) else (kBd (F_63 T ak (some j1) a2 M) (fun r50 M51 => some (r50, M51)))))))))))))) else (some (0, M)))
set_option maxHeartbeats 1000000 in
theorem D_49 {G : kG} {d : Nat} {A : kLb → Nat} {T : kT} {M : kM} {h : kH} {ak : Option Nat → Int32 → kM → Option (Int32 × kM)} {a1 : Option Nat} {a2 : Int32} {z : (Int32 × kM)}
    (hk : ∀ {t : Option Nat} {dp : Int32} {M : kM} {h : kH} {z : Int32 × kM}, kRl A T M h → ak t dp M = some z → kRun G (d + 20) 49 [.ref (A lRu), rTm A t, .int dp] h 0 0 (kPI A T z)) (R : kRl A T M h) (hF : F_49 T ak a1 a2 M = some z) : kRun G (d + 23) 49 [.ref (A lRu), rTm A a1, .int a2] h 0 0 (kPI A T z) := by
  refine ⟨⟨by cases a1 <;> rfl, Nat.le_of_ble_eq_true rfl⟩, ?_⟩
  show kWP _ _ (kRun G (d + 22)) _ 0 [some (.ref (A lRu)), some (rTm A a1), some (.int a2)] [] _ _ _
  have K : (fun z : (Int32 × kM) => ∀ h1, kRl A T z.2 h1 → kPI A T z (.inl (some (.int z.1))) h1) z := fun _ q => ⟨rfl, q⟩
  unfold F_49 at hF
  refine k_aload_n (pc := 0) i_49_0 rfl (rf_is _) ?_
  rcases kOpt_el hF with ⟨rfl, hG⟩ | ⟨j1, rfl, hG⟩
  · replace hF := hG
    clear hG
    refine k_isnullN (pc := 1) (tgt := 10) i_49_1 (by decide) ?_
    refine k_iconst (pc := 10) (v := 0) i_49_10 (by decide) ?_
    obtain rfl := Option.some.inj hF
    exact k_ireturn (pc := 11) i_49_11 rfl rfl (K _ R)
  · replace hF := hG
    clear hG
    refine k_isnull (pc := 1) i_49_1 ?_
    refine k_iload_n (pc := 4) i_49_4 rfl ?_
    refine k_bipush (pc := 5) (v := 10) i_49_5 (by decide) ?_
    refine k_icmp_lt (pc := 7) (tgt := 12) i_49_7 (by decide) (fun c3 => ?_) (fun c3 => ?_)
    · rw [if_pos c3] at hF
      refine k_aload_n (pc := 12) i_49_12 rfl rfl ?_
      obtain ⟨g4, hF⟩ := kGd_el hF
      refine k_getf (pc := 13) i_49_13 f_3_38 (rd_Tm (i := j1) R g4) rfl ?_
      by_cases c5 : (gp M (lTm j1) 0) = 0
      · rw [if_pos c5] at hF
        rw [c5]
        refine k_tswIn (pc := 16) (tgt := 72) i_49_16 (by decide) (by decide) rfl (by decide) ?_
        refine k_aload_n (pc := 72) i_49_72 rfl rfl ?_
        refine k_aload_n (pc := 73) i_49_73 rfl rfl ?_
        obtain ⟨r6, M7, q8, hF⟩ := kBd_el hF
        refine kcv_I (pc := 74) (As := [.ref (A lRu), .ref (A (lTm j1))]) (st := []) (A := A) (T := T) (r := r6) (M1 := M7) i_49_74 m_3_41 rfl rfl rfl rfl (rd_Ru R) rfl (Nat.le_of_ble_eq_true rfl) (D_50 R q8) (fun h R => ?_)
        obtain rfl := Option.some.inj hF
        exact k_ireturn (pc := 77) i_49_77 rfl rfl (K _ R)
      rw [if_neg c5] at hF
      by_cases c9 : (gp M (lTm j1) 0) = 1
      · rw [if_pos c9] at hF
        rw [c9]
        refine k_tswIn (pc := 16) (tgt := 78) i_49_16 (by decide) (by decide) rfl (by decide) ?_
        refine k_aload_n (pc := 78) i_49_78 rfl rfl ?_
        refine k_getf (pc := 79) i_49_79 f_3_45 (rd_Tm (i := j1) R g4) rfl ?_
        rcases kOpt_el hF with ⟨e11, hF⟩ | ⟨j10, e11, hF⟩
        · rw [e11]
          refine k_nonnullN (pc := 82) i_49_82 ?_
          refine k_aload_n (pc := 85) i_49_85 rfl rfl ?_
          refine k_aload_n (pc := 86) i_49_86 rfl rfl ?_
          refine k_iload_n (pc := 87) i_49_87 rfl ?_
          obtain ⟨r12, M13, q14, hF⟩ := kBd_el hF
          refine kcv_I (pc := 88) (As := [.ref (A lRu), .ref (A (lTm j1)), .int a2]) (st := []) (A := A) (T := T) (r := r12) (M1 := M13) i_49_88 m_3_49 rfl rfl rfl rfl (rd_Ru R) rfl (Nat.le_of_ble_eq_true rfl) (kRun.deepN 1 <| D_53 hk R q14) (fun h R => ?_)
          refine k_goto (pc := 91) (tgt := 99) i_49_91 (by decide) ?_
          obtain rfl := Option.some.inj hF
          exact k_ireturn (pc := 99) i_49_99 rfl rfl (K _ R)
        · rw [e11]
          refine k_nonnull (pc := 82) (tgt := 94) i_49_82 (by decide) ?_
          refine k_aload_n (pc := 94) i_49_94 rfl rfl ?_
          refine k_aload_n (pc := 95) i_49_95 rfl rfl ?_
          obtain ⟨r15, M16, q17, hF⟩ := kBd_el hF
          refine kcv_I (pc := 96) (As := [.ref (A lRu), .ref (A (lTm j1))]) (st := []) (A := A) (T := T) (r := r15) (M1 := M16) i_49_96 m_3_52 rfl rfl rfl rfl (rd_Ru R) rfl (Nat.le_of_ble_eq_true rfl) (D_51 R q17) (fun h R => ?_)
          obtain rfl := Option.some.inj hF
          exact k_ireturn (pc := 99) i_49_99 rfl rfl (K _ R)
      rw [if_neg c9] at hF
      by_cases c18 : (gp M (lTm j1) 0) = 2
      · rw [if_pos c18] at hF
        rw [c18]
        refine k_tswIn (pc := 16) (tgt := 100) i_49_16 (by decide) (by decide) rfl (by decide) ?_
        refine k_aload_n (pc := 100) i_49_100 rfl rfl ?_
        refine k_aload_n (pc := 101) i_49_101 rfl rfl ?_
        refine k_iload_n (pc := 102) i_49_102 rfl ?_
        obtain ⟨r19, M20, q21, hF⟩ := kBd_el hF
        refine kcv_I (pc := 103) (As := [.ref (A lRu), .ref (A (lTm j1)), .int a2]) (st := []) (A := A) (T := T) (r := r19) (M1 := M20) i_49_103 m_3_55 rfl rfl rfl rfl (rd_Ru R) rfl (Nat.le_of_ble_eq_true rfl) (kRun.deepN 1 <| D_55 hk R q21) (fun h R => ?_)
        obtain rfl := Option.some.inj hF
        exact k_ireturn (pc := 106) i_49_106 rfl rfl (K _ R)
      rw [if_neg c18] at hF
      by_cases c22 : (gp M (lTm j1) 0) = 3
      · rw [if_pos c22] at hF
        rw [c22]
        refine k_tswIn (pc := 16) (tgt := 107) i_49_16 (by decide) (by decide) rfl (by decide) ?_
        refine k_aload_n (pc := 107) i_49_107 rfl rfl ?_
        refine k_aload_n (pc := 108) i_49_108 rfl rfl ?_
        refine k_iload_n (pc := 109) i_49_109 rfl ?_
        obtain ⟨r23, M24, q25, hF⟩ := kBd_el hF
        refine kcv_I (pc := 110) (As := [.ref (A lRu), .ref (A (lTm j1)), .int a2]) (st := []) (A := A) (T := T) (r := r23) (M1 := M24) i_49_110 m_3_58 rfl rfl rfl rfl (rd_Ru R) rfl (Nat.le_of_ble_eq_true rfl) (kRun.deepN 1 <| D_56 hk R q25) (fun h R => ?_)
        obtain rfl := Option.some.inj hF
        exact k_ireturn (pc := 113) i_49_113 rfl rfl (K _ R)
      rw [if_neg c22] at hF
      by_cases c26 : (gp M (lTm j1) 0) = 4
      · rw [if_pos c26] at hF
        rw [c26]
        refine k_tswIn (pc := 16) (tgt := 107) i_49_16 (by decide) (by decide) rfl (by decide) ?_
        refine k_aload_n (pc := 107) i_49_107 rfl rfl ?_
        refine k_aload_n (pc := 108) i_49_108 rfl rfl ?_
        refine k_iload_n (pc := 109) i_49_109 rfl ?_
        obtain ⟨r27, M28, q29, hF⟩ := kBd_el hF
        refine kcv_I (pc := 110) (As := [.ref (A lRu), .ref (A (lTm j1)), .int a2]) (st := []) (A := A) (T := T) (r := r27) (M1 := M28) i_49_110 m_3_58 rfl rfl rfl rfl (rd_Ru R) rfl (Nat.le_of_ble_eq_true rfl) (kRun.deepN 1 <| D_56 hk R q29) (fun h R => ?_)
        obtain rfl := Option.some.inj hF
        exact k_ireturn (pc := 113) i_49_113 rfl rfl (K _ R)
      rw [if_neg c26] at hF
      by_cases c30 : (gp M (lTm j1) 0) = 5
      · rw [if_pos c30] at hF
        rw [c30]
        refine k_tswIn (pc := 16) (tgt := 114) i_49_16 (by decide) (by decide) rfl (by decide) ?_
        refine k_aload_n (pc := 114) i_49_114 rfl rfl ?_
        refine k_aload_n (pc := 115) i_49_115 rfl rfl ?_
        refine k_iload_n (pc := 116) i_49_116 rfl ?_
        obtain ⟨r31, M32, q33, hF⟩ := kBd_el hF
        refine kcv_I (pc := 117) (As := [.ref (A lRu), .ref (A (lTm j1)), .int a2]) (st := []) (A := A) (T := T) (r := r31) (M1 := M32) i_49_117 m_3_61 rfl rfl rfl rfl (rd_Ru R) rfl (Nat.le_of_ble_eq_true rfl) (D_59 hk R q33) (fun h R => ?_)
        obtain rfl := Option.some.inj hF
        exact k_ireturn (pc := 120) i_49_120 rfl rfl (K _ R)
      rw [if_neg c30] at hF
      by_cases c34 : (gp M (lTm j1) 0) = 6
      · rw [if_pos c34] at hF
        rw [c34]
        refine k_tswIn (pc := 16) (tgt := 121) i_49_16 (by decide) (by decide) rfl (by decide) ?_
        refine k_aload_n (pc := 121) i_49_121 rfl rfl ?_
        refine k_aload_n (pc := 122) i_49_122 rfl rfl ?_
        refine k_iload_n (pc := 123) i_49_123 rfl ?_
        obtain ⟨r35, M36, q37, hF⟩ := kBd_el hF
        refine kcv_I (pc := 124) (As := [.ref (A lRu), .ref (A (lTm j1)), .int a2]) (st := []) (A := A) (T := T) (r := r35) (M1 := M36) i_49_124 m_3_64 rfl rfl rfl rfl (rd_Ru R) rfl (Nat.le_of_ble_eq_true rfl) (D_60 hk R q37) (fun h R => ?_)
        obtain rfl := Option.some.inj hF
        exact k_ireturn (pc := 127) i_49_127 rfl rfl (K _ R)
      rw [if_neg c34] at hF
      by_cases c38 : (gp M (lTm j1) 0) = 7
      · rw [if_pos c38] at hF
        rw [c38]
        refine k_tswIn (pc := 16) (tgt := 142) i_49_16 (by decide) (by decide) rfl (by decide) ?_
        refine k_aload_n (pc := 142) i_49_142 rfl rfl ?_
        refine k_aload_n (pc := 143) i_49_143 rfl rfl ?_
        refine k_iload_n (pc := 144) i_49_144 rfl ?_
        obtain ⟨r39, M40, q41, hF⟩ := kBd_el hF
        refine kcv_I (pc := 145) (As := [.ref (A lRu), .ref (A (lTm j1)), .int a2]) (st := []) (A := A) (T := T) (r := r39) (M1 := M40) i_49_145 m_3_73 rfl rfl rfl rfl (rd_Ru R) rfl (Nat.le_of_ble_eq_true rfl) (D_63 hk R q41) (fun h R => ?_)
        obtain rfl := Option.some.inj hF
        exact k_ireturn (pc := 148) i_49_148 rfl rfl (K _ R)
      rw [if_neg c38] at hF
      by_cases c42 : (gp M (lTm j1) 0) = 8
      · rw [if_pos c42] at hF
        rw [c42]
        refine k_tswIn (pc := 16) (tgt := 128) i_49_16 (by decide) (by decide) rfl (by decide) ?_
        refine k_aload_n (pc := 128) i_49_128 rfl rfl ?_
        refine k_aload_n (pc := 129) i_49_129 rfl rfl ?_
        refine k_iload_n (pc := 130) i_49_130 rfl ?_
        obtain ⟨r43, M44, q45, hF⟩ := kBd_el hF
        refine kcv_I (pc := 131) (As := [.ref (A lRu), .ref (A (lTm j1)), .int a2]) (st := []) (A := A) (T := T) (r := r43) (M1 := M44) i_49_131 m_3_67 rfl rfl rfl rfl (rd_Ru R) rfl (Nat.le_of_ble_eq_true rfl) (D_61 hk R q45) (fun h R => ?_)
        obtain rfl := Option.some.inj hF
        exact k_ireturn (pc := 134) i_49_134 rfl rfl (K _ R)
      rw [if_neg c42] at hF
      by_cases c46 : (gp M (lTm j1) 0) = 9
      · rw [if_pos c46] at hF
        rw [c46]
        refine k_tswIn (pc := 16) (tgt := 135) i_49_16 (by decide) (by decide) rfl (by decide) ?_
        refine k_aload_n (pc := 135) i_49_135 rfl rfl ?_
        refine k_aload_n (pc := 136) i_49_136 rfl rfl ?_
        refine k_iload_n (pc := 137) i_49_137 rfl ?_
        obtain ⟨r47, M48, q49, hF⟩ := kBd_el hF
        refine kcv_I (pc := 138) (As := [.ref (A lRu), .ref (A (lTm j1)), .int a2]) (st := []) (A := A) (T := T) (r := r47) (M1 := M48) i_49_138 m_3_70 rfl rfl rfl rfl (rd_Ru R) rfl (Nat.le_of_ble_eq_true rfl) (D_62 hk R q49) (fun h R => ?_)
        obtain rfl := Option.some.inj hF
        exact k_ireturn (pc := 141) i_49_141 rfl rfl (K _ R)
      rw [if_neg c46] at hF
      refine k_tswOut (pc := 16) (tgt := 142) i_49_16 (kSwOut (n := 10) (by decide) (fun k hk => match k, hk with | 0, _ => c5 | 1, _ => c9 | 2, _ => c18 | 3, _ => c22 | 4, _ => c26 | 5, _ => c30 | 6, _ => c34 | 7, _ => c38 | 8, _ => c42 | 9, _ => c46 | k + 10, hk => absurd hk (by omega))) (by decide) ?_
      refine k_aload_n (pc := 142) i_49_142 rfl rfl ?_
      refine k_aload_n (pc := 143) i_49_143 rfl rfl ?_
      refine k_iload_n (pc := 144) i_49_144 rfl ?_
      obtain ⟨r50, M51, q52, hF⟩ := kBd_el hF
      refine kcv_I (pc := 145) (As := [.ref (A lRu), .ref (A (lTm j1)), .int a2]) (st := []) (A := A) (T := T) (r := r50) (M1 := M51) i_49_145 m_3_73 rfl rfl rfl rfl (rd_Ru R) rfl (Nat.le_of_ble_eq_true rfl) (D_63 hk R q52) (fun h R => ?_)
      obtain rfl := Option.some.inj hF
      exact k_ireturn (pc := 148) i_49_148 rfl rfl (K _ R)
    · rw [if_neg c3] at hF
      refine k_iconst (pc := 10) (v := 0) i_49_10 (by decide) ?_
      obtain rfl := Option.some.inj hF
      exact k_ireturn (pc := 11) i_49_11 rfl rfl (K _ R)
noncomputable def F_49r (T : kT) : Nat → Option Nat → Int32 → kM → Option (Int32 × kM)
  | 0, _, _, _ => none
  | e + 1, t, dp, M => F_49 T (F_49r T e) t dp M
theorem D_49r {G : kG} {A : kLb → Nat} {T : kT} : ∀ {e d : Nat} {t : Option Nat} {dp : Int32} {M : kM} {h : kH} {z : Int32 × kM}, kRl A T M h → F_49r T e t dp M = some z → kRun G (d + (3 * e + 20)) 49 [.ref (A lRu), rTm A t, .int dp] h 0 0 (kPI A T z)
  | 0, _, _, _, _, _, _, _, hF => by cases hF
  | e + 1, d, t, dp, M, h, z, R, hF => by
    have := D_49 (G := G) (d := d + 3 * e) (ak := F_49r T e) (fun R2 h2 => by have := D_49r (G := G) (e := e) (d := d) R2 h2; rw [← Nat.add_assoc] at this; exact this) R hF
    rw [show d + (3 * (e + 1) + 20) = d + 3 * e + 23 by omega]
    exact this
-- 46: RD$Runner startAnew
noncomputable def F_46 (T : kT) (a1 : Option Nat) (M : kM) : Option (Unit × kM) :=
  kBd (F_48r T 12 a1 0 (sp M lRu 1 0)) (fun r2 M3 => some ((), M3))
set_option maxHeartbeats 1000000 in
theorem D_46 {G : kG} {d : Nat} {A : kLb → Nat} {T : kT} {M : kM} {h : kH} {a1 : Option Nat} {z : (Unit × kM)} (R : kRl A T M h) (hF : F_46 T a1 M = some z) : kRun G (d + 16) 46 [.ref (A lRu), rTm A a1] h 0 0 (kPV A T z) := by
  refine ⟨⟨by cases a1 <;> rfl, Nat.le_of_ble_eq_true rfl⟩, ?_⟩
  show kWP _ _ (kRun G (d + 15)) _ 0 [some (.ref (A lRu)), some (rTm A a1)] [] _ _ _
  have K : (fun z : (Unit × kM) => ∀ h1, kRl A T z.2 h1 → kPV A T z (.inl none) h1) z := fun _ q => ⟨rfl, q⟩
  unfold F_46 at hF
  refine k_aload_n (pc := 0) i_46_0 rfl rfl ?_
  refine k_iconst (pc := 1) (v := 0) i_46_1 (by decide) ?_
  refine k_putf (pc := 2) i_46_2 f_3_9 (rd_Ru R) (by decide +kernel) (Nat.le_of_ble_eq_true rfl) rfl rfl rfl (fun h e1 => ?_)
  replace R := kRl_sp (l := lRu) (k := 1) (v := 0) R rfl e1
  clear e1
  refine k_aload_n (pc := 5) i_46_5 rfl rfl ?_
  refine k_aload_n (pc := 6) i_46_6 rfl (rf_is _) ?_
  refine k_iconst (pc := 7) (v := 0) i_46_7 (by decide) ?_
  obtain ⟨r2, M3, q4, hF⟩ := kBd_el hF
  refine kcv_V (pc := 8) (As := [.ref (A lRu), rTm A a1, .int 0]) (st := []) (A := A) (T := T) (r := r2) (M1 := M3) i_46_8 m_3_15 rfl rfl rfl rfl (rd_Ru R) rfl (Nat.le_of_ble_eq_true rfl) (D_48r (e := 12) R q4) (fun h R => ?_)
  obtain rfl := Option.some.inj hF
  exact k_return (pc := 11) i_46_11 rfl (K _ R)
-- 47: RD$Runner goOn
noncomputable def F_47 (T : kT) (a1 : Option Nat) (a2 : Int32) (M : kM) : Option (Int32 × kM) :=
  kBd (F_49r T 11 a1 0 (sp M lRu 0 a2)) (fun r2 M3 => some (r2, M3))
set_option maxHeartbeats 1000000 in
theorem D_47 {G : kG} {d : Nat} {A : kLb → Nat} {T : kT} {M : kM} {h : kH} {a1 : Option Nat} {a2 : Int32} {z : (Int32 × kM)} (R : kRl A T M h) (hF : F_47 T a1 a2 M = some z) : kRun G (d + 54) 47 [.ref (A lRu), rTm A a1, .int a2] h 0 0 (kPI A T z) := by
  refine ⟨⟨by cases a1 <;> rfl, Nat.le_of_ble_eq_true rfl⟩, ?_⟩
  show kWP _ _ (kRun G (d + 53)) _ 0 [some (.ref (A lRu)), some (rTm A a1), some (.int a2)] [] _ _ _
  have K : (fun z : (Int32 × kM) => ∀ h1, kRl A T z.2 h1 → kPI A T z (.inl (some (.int z.1))) h1) z := fun _ q => ⟨rfl, q⟩
  unfold F_47 at hF
  refine k_aload_n (pc := 0) i_47_0 rfl rfl ?_
  refine k_iload_n (pc := 1) i_47_1 rfl ?_
  refine k_putf (pc := 2) i_47_2 f_3_19 (rd_Ru R) (by decide +kernel) (Nat.le_of_ble_eq_true rfl) rfl rfl rfl (fun h e1 => ?_)
  replace R := kRl_sp (l := lRu) (k := 0) (v := a2) R rfl e1
  clear e1
  refine k_aload_n (pc := 5) i_47_5 rfl rfl ?_
  refine k_aload_n (pc := 6) i_47_6 rfl (rf_is _) ?_
  refine k_iconst (pc := 7) (v := 0) i_47_7 (by decide) ?_
  obtain ⟨r2, M3, q4, hF⟩ := kBd_el hF
  refine kcv_I (pc := 8) (As := [.ref (A lRu), rTm A a1, .int 0]) (st := []) (A := A) (T := T) (r := r2) (M1 := M3) i_47_8 m_3_22 rfl rfl rfl rfl (rd_Ru R) rfl (Nat.le_of_ble_eq_true rfl) (D_49r (e := 11) R q4) (fun h R => ?_)
  obtain rfl := Option.some.inj hF
  exact k_ireturn (pc := 11) i_47_11 rfl rfl (K _ R)
