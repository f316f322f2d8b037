-- 143: table
noncomputable def F_143 (T : kT) (a1 : Int32) (M : kM) : Option (Int32 × kT × kM) :=
  kBt (F_1 T a1 M) (fun r1 T4 M2 => kCh T T4 (kSm r1 (fun E => if E = 0 then (some (1, T4, M2)) else (if E = 1 then (some (2, T4, M2)) else (none))) (fun v => kGx 0 1 (some (0, T4, so M2 (0 : Int32).toNatClampNeg v.toInt64)))))
set_option maxHeartbeats 1000000 in
theorem D_143 {G : kG} {d : Nat} {A : kLb → Nat} {T : kT} {M : kM} {h : kH} {a1 : Int32} {z : (Int32 × kT × kM)} {mc ms : Nat} (hmc : kCc T z.2.1 + 1 ≤ mc) (hms : kCs T z.2.1 + 6 ≤ ms) (R : kRl A T M h) (hF : F_143 T a1 M = some z) : kRun G (d + 4) 143 [.ref (A lD), .int a1, .ref (A lOu)] h mc ms (kPAI A T z) := by
  refine ⟨⟨rfl, Nat.le_of_ble_eq_true rfl⟩, ?_⟩
  show kWP _ _ (kRun G (d + 3)) _ 0 [some (.ref (A lD)), some (.int a1), some (.ref (A lOu)), none] [] _ _ _
  have K : (fun z : (Int32 × kT × kM) => ∀ A' h1, kRl A' z.2.1 z.2.2 h1 → kExt T A A' → kPAI A T z (.inl (some (.int z.1))) h1) z := fun A2 _ q e => ⟨A2, q, e, rfl⟩
  unfold F_143 at hF
  refine k_aload_n (pc := 0) i_143_0 rfl rfl ?_
  refine k_iconst (pc := 1) (v := 0) i_143_1 (by decide) ?_
  refine k_aload_n (pc := 2) i_143_2 rfl rfl ?_
  refine k_iload_n (pc := 3) i_143_3 rfl ?_
  obtain ⟨r1, T4, M2, q3, hF⟩ := kBt_el hF
  obtain ⟨l5, l6, hF⟩ := kCh_el hF
  refine kcxa_I (pc := 4) (As := [.ref (A lD), .int a1]) (st := [.int 0, .ref (A lOu)]) (A := A) (T := T) (T1 := T4) (r := r1) (M1 := M2) i_143_4 m_8_7 rfl rfl rfl rfl (rd_D R) rfl rfl rfl ?_ (Nat.le_of_ble_eq_true rfl) (D_1 (Nat.le_refl _) (Nat.le_refl _) R q3) (Nat.le_trans (Nat.add_le_add_right (kCc_le l5 l6) 1) hmc) (Nat.le_trans (Nat.add_le_add_right (kCs_le l5 l6) 6) hms) (fun v A h e R xA => ?_) (fun E q hp A h e hh R xA => ?_)
  · intro E e
    replace hF := kSm_l e hF
    by_cases c0 : E = 0
    · exact ⟨_, by rw [c0]; exact h_143_4_0⟩
    by_cases c1 : E = 1
    · exact ⟨_, by rw [c1]; exact h_143_4_1⟩
    exact absurd hF (by simp [c0, c1])
  · replace hF := kSm_r e hF
    rw [← xA lD rfl]
    rw [← xA lOu rfl]
    replace K := fun A' h1 q x => K A' h1 q (kExt_tr l5 xA x)
    refine k_i2l (pc := 7) i_143_7 ?_
    obtain ⟨g7, hF⟩ := kGx_el hF
    refine k_last (pc := 8) i_143_8 (rd_Ou R) g7 (fun h e8 => ?_)
    replace R := kRl_so (k := (0 : Int32).toNatClampNeg) (v := v.toInt64) R e8
    clear e8
    refine k_goto (pc := 9) (tgt := 18) i_143_9 (by decide) ?_
    refine k_iconst (pc := 18) (v := 0) i_143_18 (by decide) ?_
    obtain rfl := Option.some.inj hF
    exact k_ireturn (pc := 19) i_143_19 rfl rfl (K _ _ R (fun _ _ => rfl))
  · replace hF := kSm_l e hF
    rw [← xA lD rfl]
    rw [← xA lOu rfl]
    replace K := fun A' h1 q x => K A' h1 q (kExt_tr l5 xA x)
    by_cases c0 : E = 0
    · rw [if_pos c0] at hF
      rw [c0, h_143_4_0] at hh
      obtain rfl := Option.some.inj hh
      refine k_astore_n (pc := 12) (lo2 := [some (.ref (A lD)), some (.int a1), some (.ref (A lOu)), some (.ref q)]) i_143_12 (Nat.le_of_ble_eq_true rfl) rfl rfl ?_
      refine k_iconst (pc := 13) (v := 1) i_143_13 (by decide) ?_
      obtain rfl := Option.some.inj hF
      exact k_ireturn (pc := 14) i_143_14 rfl rfl (K _ _ R (fun _ _ => rfl))
    rw [if_neg c0] at hF
    by_cases c1 : E = 1
    · rw [if_pos c1] at hF
      rw [c1, h_143_4_1] at hh
      obtain rfl := Option.some.inj hh
      refine k_astore_n (pc := 15) (lo2 := [some (.ref (A lD)), some (.int a1), some (.ref (A lOu)), some (.ref q)]) i_143_15 (Nat.le_of_ble_eq_true rfl) rfl rfl ?_
      refine k_iconst (pc := 16) (v := 2) i_143_16 (by decide) ?_
      obtain rfl := Option.some.inj hF
      exact k_ireturn (pc := 17) i_143_17 rfl rfl (K _ _ R (fun _ _ => rfl))
    rw [if_neg c1] at hF
    cases hF
-- 144: index
noncomputable def F_144 (T : kT) (a1 : Int32) (a2 : Int32) (M : kM) : Option (Int32 × kM) :=
  kBd (F_2 T a1 a2 M) (fun r1 M2 => kSm r1 (fun E => if E = 0 then (some (1, M2)) else (if E = 1 then (some (2, M2)) else (none))) (fun v => some (0, M2)))
set_option maxHeartbeats 1000000 in
theorem D_144 {G : kG} {d : Nat} {A : kLb → Nat} {T : kT} {M : kM} {h : kH} {a1 : Int32} {a2 : Int32} {z : (Int32 × kM)} {mc ms : Nat} (hmc : 1 ≤ mc) (hms : 6 ≤ ms) (R : kRl A T M h) (hF : F_144 T a1 a2 M = some z) : kRun G (d + 3) 144 [.ref (A lD), .int a1, .int a2] h mc ms (kPI A T z) := by
  refine ⟨⟨rfl, Nat.le_of_ble_eq_true rfl⟩, ?_⟩
  show kWP _ _ (kRun G (d + 2)) _ 0 [some (.ref (A lD)), some (.int a1), some (.int a2), none] [] _ _ _
  have K : (fun z : (Int32 × kM) => ∀ h1, kRl A T z.2 h1 → kPI A T z (.inl (some (.int z.1))) h1) z := fun _ q => ⟨rfl, q⟩
  unfold F_144 at hF
  refine k_aload_n (pc := 0) i_144_0 rfl rfl ?_
  refine k_iload_n (pc := 1) i_144_1 rfl ?_
  refine k_iload_n (pc := 2) i_144_2 rfl ?_
  obtain ⟨r1, M2, q3, hF⟩ := kBd_el hF
  refine kcx_V (pc := 3) (As := [.ref (A lD), .int a1, .int a2]) (st := []) (A := A) (T := T) (r := r1) (M1 := M2) i_144_3 m_8_17 rfl rfl rfl rfl (rd_D R) rfl rfl rfl ?_ (Nat.le_of_ble_eq_true rfl) (D_2 (Nat.le_refl _) (Nat.le_refl _) R q3) hmc hms (fun v h e R => ?_) (fun E q hp h e hh R => ?_)
  · intro E e
    replace hF := kSm_l e hF
    by_cases c0 : E = 0
    · exact ⟨_, by rw [c0]; exact h_144_3_0⟩
    by_cases c1 : E = 1
    · exact ⟨_, by rw [c1]; exact h_144_3_1⟩
    exact absurd hF (by simp [c0, c1])
  · replace hF := kSm_r e hF
    refine k_goto (pc := 6) (tgt := 15) i_144_6 (by decide) ?_
    refine k_iconst (pc := 15) (v := 0) i_144_15 (by decide) ?_
    obtain rfl := Option.some.inj hF
    exact k_ireturn (pc := 16) i_144_16 rfl rfl (K _ R)
  · replace hF := kSm_l e hF
    by_cases c0 : E = 0
    · rw [if_pos c0] at hF
      rw [c0, h_144_3_0] at hh
      obtain rfl := Option.some.inj hh
      refine k_astore_n (pc := 9) (lo2 := [some (.ref (A lD)), some (.int a1), some (.int a2), some (.ref q)]) i_144_9 (Nat.le_of_ble_eq_true rfl) rfl rfl ?_
      refine k_iconst (pc := 10) (v := 1) i_144_10 (by decide) ?_
      obtain rfl := Option.some.inj hF
      exact k_ireturn (pc := 11) i_144_11 rfl rfl (K _ R)
    rw [if_neg c0] at hF
    by_cases c1 : E = 1
    · rw [if_pos c1] at hF
      rw [c1, h_144_3_1] at hh
      obtain rfl := Option.some.inj hh
      refine k_astore_n (pc := 12) (lo2 := [some (.ref (A lD)), some (.int a1), some (.int a2), some (.ref q)]) i_144_12 (Nat.le_of_ble_eq_true rfl) rfl rfl ?_
      refine k_iconst (pc := 13) (v := 2) i_144_13 (by decide) ?_
      obtain rfl := Option.some.inj hF
      exact k_ireturn (pc := 14) i_144_14 rfl rfl (K _ R)
    rw [if_neg c1] at hF
    cases hF
-- 145: stage
noncomputable def F_145 (T : kT) (a1 : Int32) (a2 : Int32) (M : kM) : Option (Int32 × kM) :=
  kBd (F_3 T a1 a2 M) (fun r1 M2 => kSm r1 (fun E => if E = 0 then (some (1, M2)) else (none)) (fun v => some (0, M2)))
set_option maxHeartbeats 1000000 in
theorem D_145 {G : kG} {d : Nat} {A : kLb → Nat} {T : kT} {M : kM} {h : kH} {a1 : Int32} {a2 : Int32} {z : (Int32 × kM)} {mc ms : Nat} (hmc : 1 ≤ mc) (hms : 6 ≤ ms) (R : kRl A T M h) (hF : F_145 T a1 a2 M = some z) : kRun G (d + 2) 145 [.ref (A lD), .int a1, .int a2] h mc ms (kPI A T z) := by
  refine ⟨⟨rfl, Nat.le_of_ble_eq_true rfl⟩, ?_⟩
  show kWP _ _ (kRun G (d + 1)) _ 0 [some (.ref (A lD)), some (.int a1), some (.int a2), none] [] _ _ _
  have K : (fun z : (Int32 × kM) => ∀ h1, kRl A T z.2 h1 → kPI A T z (.inl (some (.int z.1))) h1) z := fun _ q => ⟨rfl, q⟩
  unfold F_145 at hF
  refine k_aload_n (pc := 0) i_145_0 rfl rfl ?_
  refine k_iload_n (pc := 1) i_145_1 rfl ?_
  refine k_iload_n (pc := 2) i_145_2 rfl ?_
  obtain ⟨r1, M2, q3, hF⟩ := kBd_el hF
  refine kcx_V (pc := 3) (As := [.ref (A lD), .int a1, .int a2]) (st := []) (A := A) (T := T) (r := r1) (M1 := M2) i_145_3 m_8_21 rfl rfl rfl rfl (rd_D R) rfl rfl rfl ?_ (Nat.le_of_ble_eq_true rfl) (D_3 (Nat.le_refl _) (Nat.le_refl _) R q3) hmc hms (fun v h e R => ?_) (fun E q hp h e hh R => ?_)
  · intro E e
    replace hF := kSm_l e hF
    by_cases c0 : E = 0
    · exact ⟨_, by rw [c0]; exact h_145_3_0⟩
    exact absurd hF (by simp [c0])
  · replace hF := kSm_r e hF
    refine k_goto (pc := 6) (tgt := 12) i_145_6 (by decide) ?_
    refine k_iconst (pc := 12) (v := 0) i_145_12 (by decide) ?_
    obtain rfl := Option.some.inj hF
    exact k_ireturn (pc := 13) i_145_13 rfl rfl (K _ R)
  · replace hF := kSm_l e hF
    by_cases c0 : E = 0
    · rw [if_pos c0] at hF
      rw [c0, h_145_3_0] at hh
      obtain rfl := Option.some.inj hh
      refine k_astore_n (pc := 9) (lo2 := [some (.ref (A lD)), some (.int a1), some (.int a2), some (.ref q)]) i_145_9 (Nat.le_of_ble_eq_true rfl) rfl rfl ?_
      refine k_iconst (pc := 10) (v := 1) i_145_10 (by decide) ?_
      obtain rfl := Option.some.inj hF
      exact k_ireturn (pc := 11) i_145_11 rfl rfl (K _ R)
    rw [if_neg c0] at hF
    cases hF
-- 146: insert
noncomputable def F_146 (T : kT) (a1 : Int32) (M : kM) : Option (Int32 × kM) :=
  kBd (F_4 T a1 M) (fun r1 M2 => kSm r1 (fun E => if E = 0 then (some (1, M2)) else (if E = 1 then (some (2, M2)) else (none))) (fun v => kGx 0 1 (some (0, so M2 (0 : Int32).toNatClampNeg v.toInt64))))
set_option maxHeartbeats 1000000 in
theorem D_146 {G : kG} {d : Nat} {A : kLb → Nat} {T : kT} {M : kM} {h : kH} {a1 : Int32} {z : (Int32 × kM)} {mc ms : Nat} (hmc : 1 ≤ mc) (hms : 6 ≤ ms) (R : kRl A T M h) (hF : F_146 T a1 M = some z) : kRun G (d + 3) 146 [.ref (A lD), .int a1, .ref (A lOu)] h mc ms (kPI A T z) := by
  refine ⟨⟨rfl, Nat.le_of_ble_eq_true rfl⟩, ?_⟩
  show kWP _ _ (kRun G (d + 2)) _ 0 [some (.ref (A lD)), some (.int a1), some (.ref (A lOu)), none] [] _ _ _
  have K : (fun z : (Int32 × kM) => ∀ h1, kRl A T z.2 h1 → kPI A T z (.inl (some (.int z.1))) h1) z := fun _ q => ⟨rfl, q⟩
  unfold F_146 at hF
  refine k_aload_n (pc := 0) i_146_0 rfl rfl ?_
  refine k_iconst (pc := 1) (v := 0) i_146_1 (by decide) ?_
  refine k_aload_n (pc := 2) i_146_2 rfl rfl ?_
  refine k_iload_n (pc := 3) i_146_3 rfl ?_
  obtain ⟨r1, M2, q3, hF⟩ := kBd_el hF
  refine kcx_I (pc := 4) (As := [.ref (A lD), .int a1]) (st := [.int 0, .ref (A lOu)]) (A := A) (T := T) (r := r1) (M1 := M2) i_146_4 m_8_24 rfl rfl rfl rfl (rd_D R) rfl rfl rfl ?_ (Nat.le_of_ble_eq_true rfl) (D_4 (Nat.le_refl _) (Nat.le_refl _) R q3) hmc hms (fun v h e R => ?_) (fun E q hp h e hh R => ?_)
  · intro E e
    replace hF := kSm_l e hF
    by_cases c0 : E = 0
    · exact ⟨_, by rw [c0]; exact h_146_4_0⟩
    by_cases c1 : E = 1
    · exact ⟨_, by rw [c1]; exact h_146_4_1⟩
    exact absurd hF (by simp [c0, c1])
  · replace hF := kSm_r e hF
    refine k_i2l (pc := 7) i_146_7 ?_
    obtain ⟨g4, hF⟩ := kGx_el hF
    refine k_last (pc := 8) i_146_8 (rd_Ou R) g4 (fun h e5 => ?_)
    replace R := kRl_so (k := (0 : Int32).toNatClampNeg) (v := v.toInt64) R e5
    clear e5
    refine k_goto (pc := 9) (tgt := 18) i_146_9 (by decide) ?_
    refine k_iconst (pc := 18) (v := 0) i_146_18 (by decide) ?_
    obtain rfl := Option.some.inj hF
    exact k_ireturn (pc := 19) i_146_19 rfl rfl (K _ R)
  · replace hF := kSm_l e hF
    by_cases c0 : E = 0
    · rw [if_pos c0] at hF
      rw [c0, h_146_4_0] at hh
      obtain rfl := Option.some.inj hh
      refine k_astore_n (pc := 12) (lo2 := [some (.ref (A lD)), some (.int a1), some (.ref (A lOu)), some (.ref q)]) i_146_12 (Nat.le_of_ble_eq_true rfl) rfl rfl ?_
      refine k_iconst (pc := 13) (v := 1) i_146_13 (by decide) ?_
      obtain rfl := Option.some.inj hF
      exact k_ireturn (pc := 14) i_146_14 rfl rfl (K _ R)
    rw [if_neg c0] at hF
    by_cases c1 : E = 1
    · rw [if_pos c1] at hF
      rw [c1, h_146_4_1] at hh
      obtain rfl := Option.some.inj hh
      refine k_astore_n (pc := 15) (lo2 := [some (.ref (A lD)), some (.int a1), some (.ref (A lOu)), some (.ref q)]) i_146_15 (Nat.le_of_ble_eq_true rfl) rfl rfl ?_
      refine k_iconst (pc := 16) (v := 2) i_146_16 (by decide) ?_
      obtain rfl := Option.some.inj hF
      exact k_ireturn (pc := 17) i_146_17 rfl rfl (K _ R)
    rw [if_neg c1] at hF
    cases hF
-- 147: delete
noncomputable def F_147 (T : kT) (a1 : Int32) (a2 : Int32) (a3 : Int32) (M : kM) : Option (Int32 × kM) :=
  kBd (F_5 T a1 a2 a3 M) (fun r1 M2 => kSm r1 (fun E => if E = 0 then (some (1, M2)) else (if E = 1 then (some (2, M2)) else (none))) (fun v => kGx 0 1 (some (0, so M2 (0 : Int32).toNatClampNeg v.toInt64))))
set_option maxHeartbeats 1000000 in
theorem D_147 {G : kG} {d : Nat} {A : kLb → Nat} {T : kT} {M : kM} {h : kH} {a1 : Int32} {a2 : Int32} {a3 : Int32} {z : (Int32 × kM)} {mc ms : Nat} (hmc : 1 ≤ mc) (hms : 6 ≤ ms) (R : kRl A T M h) (hF : F_147 T a1 a2 a3 M = some z) : kRun G (d + 5) 147 [.ref (A lD), .int a1, .int a2, .int a3, .ref (A lOu)] h mc ms (kPI A T z) := by
  refine ⟨⟨rfl, Nat.le_of_ble_eq_true rfl⟩, ?_⟩
  show kWP _ _ (kRun G (d + 4)) _ 0 [some (.ref (A lD)), some (.int a1), some (.int a2), some (.int a3), some (.ref (A lOu)), none] [] _ _ _
  have K : (fun z : (Int32 × kM) => ∀ h1, kRl A T z.2 h1 → kPI A T z (.inl (some (.int z.1))) h1) z := fun _ q => ⟨rfl, q⟩
  unfold F_147 at hF
  refine k_aload (pc := 0) i_147_0 rfl rfl ?_
  refine k_iconst (pc := 2) (v := 0) i_147_2 (by decide) ?_
  refine k_aload_n (pc := 3) i_147_3 rfl rfl ?_
  refine k_iload_n (pc := 4) i_147_4 rfl ?_
  refine k_iload_n (pc := 5) i_147_5 rfl ?_
  refine k_iload_n (pc := 6) i_147_6 rfl ?_
  obtain ⟨r1, M2, q3, hF⟩ := kBd_el hF
  refine kcx_I (pc := 7) (As := [.ref (A lD), .int a1, .int a2, .int a3]) (st := [.int 0, .ref (A lOu)]) (A := A) (T := T) (r := r1) (M1 := M2) i_147_7 m_8_27 rfl rfl rfl rfl (rd_D R) rfl rfl rfl ?_ (Nat.le_of_ble_eq_true rfl) (D_5 (Nat.le_refl _) (Nat.le_refl _) R q3) hmc hms (fun v h e R => ?_) (fun E q hp h e hh R => ?_)
  · intro E e
    replace hF := kSm_l e hF
    by_cases c0 : E = 0
    · exact ⟨_, by rw [c0]; exact h_147_7_0⟩
    by_cases c1 : E = 1
    · exact ⟨_, by rw [c1]; exact h_147_7_1⟩
    exact absurd hF (by simp [c0, c1])
  · replace hF := kSm_r e hF
    refine k_i2l (pc := 10) i_147_10 ?_
    obtain ⟨g4, hF⟩ := kGx_el hF
    refine k_last (pc := 11) i_147_11 (rd_Ou R) g4 (fun h e5 => ?_)
    replace R := kRl_so (k := (0 : Int32).toNatClampNeg) (v := v.toInt64) R e5
    clear e5
    refine k_goto (pc := 12) (tgt := 23) i_147_12 (by decide) ?_
    refine k_iconst (pc := 23) (v := 0) i_147_23 (by decide) ?_
    obtain rfl := Option.some.inj hF
    exact k_ireturn (pc := 24) i_147_24 rfl rfl (K _ R)
  · replace hF := kSm_l e hF
    by_cases c0 : E = 0
    · rw [if_pos c0] at hF
      rw [c0, h_147_7_0] at hh
      obtain rfl := Option.some.inj hh
      refine k_astore (pc := 15) (lo2 := [some (.ref (A lD)), some (.int a1), some (.int a2), some (.int a3), some (.ref (A lOu)), some (.ref q)]) i_147_15 (Nat.le_of_ble_eq_true rfl) rfl rfl ?_
      refine k_iconst (pc := 17) (v := 1) i_147_17 (by decide) ?_
      obtain rfl := Option.some.inj hF
      exact k_ireturn (pc := 18) i_147_18 rfl rfl (K _ R)
    rw [if_neg c0] at hF
    by_cases c1 : E = 1
    · rw [if_pos c1] at hF
      rw [c1, h_147_7_1] at hh
      obtain rfl := Option.some.inj hh
      refine k_astore (pc := 19) (lo2 := [some (.ref (A lD)), some (.int a1), some (.int a2), some (.int a3), some (.ref (A lOu)), some (.ref q)]) i_147_19 (Nat.le_of_ble_eq_true rfl) rfl rfl ?_
      refine k_iconst (pc := 21) (v := 2) i_147_21 (by decide) ?_
      obtain rfl := Option.some.inj hF
      exact k_ireturn (pc := 22) i_147_22 rfl rfl (K _ R)
    rw [if_neg c1] at hF
    cases hF
-- 148: change
noncomputable def F_148 (T : kT) (a1 : Int32) (a2 : Int32) (a3 : Int32) (a4 : Int32) (M : kM) : Option (Int32 × kM) :=
  kBd (F_6 T a1 a2 a3 a4 M) (fun r1 M2 => kSm r1 (fun E => if E = 0 then (some (1, M2)) else (if E = 1 then (some (2, M2)) else (none))) (fun v => kGx 0 1 (some (0, so M2 (0 : Int32).toNatClampNeg v.toInt64))))
set_option maxHeartbeats 1000000 in
theorem D_148 {G : kG} {d : Nat} {A : kLb → Nat} {T : kT} {M : kM} {h : kH} {a1 : Int32} {a2 : Int32} {a3 : Int32} {a4 : Int32} {z : (Int32 × kM)} {mc ms : Nat} (hmc : 1 ≤ mc) (hms : 6 ≤ ms) (R : kRl A T M h) (hF : F_148 T a1 a2 a3 a4 M = some z) : kRun G (d + 5) 148 [.ref (A lD), .int a1, .int a2, .int a3, .int a4, .ref (A lOu)] h mc ms (kPI A T z) := by
  refine ⟨⟨rfl, Nat.le_of_ble_eq_true rfl⟩, ?_⟩
  show kWP _ _ (kRun G (d + 4)) _ 0 [some (.ref (A lD)), some (.int a1), some (.int a2), some (.int a3), some (.int a4), some (.ref (A lOu)), none] [] _ _ _
  have K : (fun z : (Int32 × kM) => ∀ h1, kRl A T z.2 h1 → kPI A T z (.inl (some (.int z.1))) h1) z := fun _ q => ⟨rfl, q⟩
  unfold F_148 at hF
  refine k_aload (pc := 0) i_148_0 rfl rfl ?_
  refine k_iconst (pc := 2) (v := 0) i_148_2 (by decide) ?_
  refine k_aload_n (pc := 3) i_148_3 rfl rfl ?_
  refine k_iload_n (pc := 4) i_148_4 rfl ?_
  refine k_iload_n (pc := 5) i_148_5 rfl ?_
  refine k_iload_n (pc := 6) i_148_6 rfl ?_
  refine k_iload (pc := 7) i_148_7 rfl ?_
  obtain ⟨r1, M2, q3, hF⟩ := kBd_el hF
  refine kcx_I (pc := 9) (As := [.ref (A lD), .int a1, .int a2, .int a3, .int a4]) (st := [.int 0, .ref (A lOu)]) (A := A) (T := T) (r := r1) (M1 := M2) i_148_9 m_8_31 rfl rfl rfl rfl (rd_D R) rfl rfl rfl ?_ (Nat.le_of_ble_eq_true rfl) (D_6 (Nat.le_refl _) (Nat.le_refl _) R q3) hmc hms (fun v h e R => ?_) (fun E q hp h e hh R => ?_)
  · intro E e
    replace hF := kSm_l e hF
    by_cases c0 : E = 0
    · exact ⟨_, by rw [c0]; exact h_148_9_0⟩
    by_cases c1 : E = 1
    · exact ⟨_, by rw [c1]; exact h_148_9_1⟩
    exact absurd hF (by simp [c0, c1])
  · replace hF := kSm_r e hF
    refine k_i2l (pc := 12) i_148_12 ?_
    obtain ⟨g4, hF⟩ := kGx_el hF
    refine k_last (pc := 13) i_148_13 (rd_Ou R) g4 (fun h e5 => ?_)
    replace R := kRl_so (k := (0 : Int32).toNatClampNeg) (v := v.toInt64) R e5
    clear e5
    refine k_goto (pc := 14) (tgt := 25) i_148_14 (by decide) ?_
    refine k_iconst (pc := 25) (v := 0) i_148_25 (by decide) ?_
    obtain rfl := Option.some.inj hF
    exact k_ireturn (pc := 26) i_148_26 rfl rfl (K _ R)
  · replace hF := kSm_l e hF
    by_cases c0 : E = 0
    · rw [if_pos c0] at hF
      rw [c0, h_148_9_0] at hh
      obtain rfl := Option.some.inj hh
      refine k_astore (pc := 17) (lo2 := [some (.ref (A lD)), some (.int a1), some (.int a2), some (.int a3), some (.int a4), some (.ref (A lOu)), some (.ref q)]) i_148_17 (Nat.le_of_ble_eq_true rfl) rfl rfl ?_
      refine k_iconst (pc := 19) (v := 1) i_148_19 (by decide) ?_
      obtain rfl := Option.some.inj hF
      exact k_ireturn (pc := 20) i_148_20 rfl rfl (K _ R)
    rw [if_neg c0] at hF
    by_cases c1 : E = 1
    · rw [if_pos c1] at hF
      rw [c1, h_148_9_1] at hh
      obtain rfl := Option.some.inj hh
      refine k_astore (pc := 21) (lo2 := [some (.ref (A lD)), some (.int a1), some (.int a2), some (.int a3), some (.int a4), some (.ref (A lOu)), some (.ref q)]) i_148_21 (Nat.le_of_ble_eq_true rfl) rfl rfl ?_
      refine k_iconst (pc := 23) (v := 2) i_148_23 (by decide) ?_
      obtain rfl := Option.some.inj hF
      exact k_ireturn (pc := 24) i_148_24 rfl rfl (K _ R)
    rw [if_neg c1] at hF
    cases hF
-- 149: begin
noncomputable def F_149 (T : kT) (M : kM) : Option (Int32 × kM) :=
  kBd (F_7 T  M) (fun r1 M2 => kSm r1 (fun E => if E = 1 then (some (1, M2)) else (none)) (fun v => some (0, M2)))
set_option maxHeartbeats 1000000 in
theorem D_149 {G : kG} {d : Nat} {A : kLb → Nat} {T : kT} {M : kM} {h : kH} {z : (Int32 × kM)} {mc ms : Nat} (hmc : 1 ≤ mc) (hms : 6 ≤ ms) (R : kRl A T M h) (hF : F_149 T  M = some z) : kRun G (d + 4) 149 [.ref (A lD)] h mc ms (kPI A T z) := by
  refine ⟨⟨rfl, Nat.le_of_ble_eq_true rfl⟩, ?_⟩
  show kWP _ _ (kRun G (d + 3)) _ 0 [some (.ref (A lD)), none] [] _ _ _
  have K : (fun z : (Int32 × kM) => ∀ h1, kRl A T z.2 h1 → kPI A T z (.inl (some (.int z.1))) h1) z := fun _ q => ⟨rfl, q⟩
  unfold F_149 at hF
  refine k_aload_n (pc := 0) i_149_0 rfl rfl ?_
  obtain ⟨r1, M2, q3, hF⟩ := kBd_el hF
  refine kcx_V (pc := 1) (As := [.ref (A lD)]) (st := []) (A := A) (T := T) (r := r1) (M1 := M2) i_149_1 m_8_35 rfl rfl rfl rfl (rd_D R) rfl rfl rfl ?_ (Nat.le_of_ble_eq_true rfl) (D_7 (Nat.le_refl _) (Nat.le_refl _) R q3) hmc hms (fun v h e R => ?_) (fun E q hp h e hh R => ?_)
  · intro E e
    replace hF := kSm_l e hF
    by_cases c1 : E = 1
    · exact ⟨_, by rw [c1]; exact h_149_1_1⟩
    exact absurd hF (by simp [c1])
  · replace hF := kSm_r e hF
    refine k_goto (pc := 4) (tgt := 10) i_149_4 (by decide) ?_
    refine k_iconst (pc := 10) (v := 0) i_149_10 (by decide) ?_
    obtain rfl := Option.some.inj hF
    exact k_ireturn (pc := 11) i_149_11 rfl rfl (K _ R)
  · replace hF := kSm_l e hF
    by_cases c1 : E = 1
    · rw [if_pos c1] at hF
      rw [c1, h_149_1_1] at hh
      obtain rfl := Option.some.inj hh
      refine k_astore_n (pc := 7) (lo2 := [some (.ref (A lD)), some (.ref q)]) i_149_7 (Nat.le_of_ble_eq_true rfl) rfl rfl ?_
      refine k_iconst (pc := 8) (v := 1) i_149_8 (by decide) ?_
      obtain rfl := Option.some.inj hF
      exact k_ireturn (pc := 9) i_149_9 rfl rfl (K _ R)
    rw [if_neg c1] at hF
    cases hF
-- 150: commit
noncomputable def F_150 (T : kT) (M : kM) : Option (Int32 × kM) :=
  kBd (F_8 T  M) (fun r1 M2 => kSm r1 (fun E => if E = 1 then (some (1, M2)) else (none)) (fun v => kGx 0 1 (some (0, so M2 (0 : Int32).toNatClampNeg v.toInt64))))
set_option maxHeartbeats 1000000 in
theorem D_150 {G : kG} {d : Nat} {A : kLb → Nat} {T : kT} {M : kM} {h : kH} {z : (Int32 × kM)} {mc ms : Nat} (hmc : 1 ≤ mc) (hms : 6 ≤ ms) (R : kRl A T M h) (hF : F_150 T  M = some z) : kRun G (d + 3) 150 [.ref (A lD), .ref (A lOu)] h mc ms (kPI A T z) := by
  refine ⟨⟨rfl, Nat.le_of_ble_eq_true rfl⟩, ?_⟩
  show kWP _ _ (kRun G (d + 2)) _ 0 [some (.ref (A lD)), some (.ref (A lOu)), none] [] _ _ _
  have K : (fun z : (Int32 × kM) => ∀ h1, kRl A T z.2 h1 → kPI A T z (.inl (some (.int z.1))) h1) z := fun _ q => ⟨rfl, q⟩
  unfold F_150 at hF
  refine k_aload_n (pc := 0) i_150_0 rfl rfl ?_
  refine k_iconst (pc := 1) (v := 0) i_150_1 (by decide) ?_
  refine k_aload_n (pc := 2) i_150_2 rfl rfl ?_
  obtain ⟨r1, M2, q3, hF⟩ := kBd_el hF
  refine kcx_I (pc := 3) (As := [.ref (A lD)]) (st := [.int 0, .ref (A lOu)]) (A := A) (T := T) (r := r1) (M1 := M2) i_150_3 m_8_38 rfl rfl rfl rfl (rd_D R) rfl rfl rfl ?_ (Nat.le_of_ble_eq_true rfl) (D_8 (Nat.le_refl _) (Nat.le_refl _) R q3) hmc hms (fun v h e R => ?_) (fun E q hp h e hh R => ?_)
  · intro E e
    replace hF := kSm_l e hF
    by_cases c1 : E = 1
    · exact ⟨_, by rw [c1]; exact h_150_3_1⟩
    exact absurd hF (by simp [c1])
  · replace hF := kSm_r e hF
    refine k_i2l (pc := 6) i_150_6 ?_
    obtain ⟨g4, hF⟩ := kGx_el hF
    refine k_last (pc := 7) i_150_7 (rd_Ou R) g4 (fun h e5 => ?_)
    replace R := kRl_so (k := (0 : Int32).toNatClampNeg) (v := v.toInt64) R e5
    clear e5
    refine k_goto (pc := 8) (tgt := 14) i_150_8 (by decide) ?_
    refine k_iconst (pc := 14) (v := 0) i_150_14 (by decide) ?_
    obtain rfl := Option.some.inj hF
    exact k_ireturn (pc := 15) i_150_15 rfl rfl (K _ R)
  · replace hF := kSm_l e hF
    by_cases c1 : E = 1
    · rw [if_pos c1] at hF
      rw [c1, h_150_3_1] at hh
      obtain rfl := Option.some.inj hh
      refine k_astore_n (pc := 11) (lo2 := [some (.ref (A lD)), some (.ref (A lOu)), some (.ref q)]) i_150_11 (Nat.le_of_ble_eq_true rfl) rfl rfl ?_
      refine k_iconst (pc := 12) (v := 1) i_150_12 (by decide) ?_
      obtain rfl := Option.some.inj hF
      exact k_ireturn (pc := 13) i_150_13 rfl rfl (K _ R)
    rw [if_neg c1] at hF
    cases hF
-- 151: rollback
noncomputable def F_151 (T : kT) (M : kM) : Option (Int32 × kM) :=
  kBd (F_9 T  M) (fun r1 M2 => kSm r1 (fun E => if E = 1 then (some (1, M2)) else (none)) (fun v => kGx 0 1 (some (0, so M2 (0 : Int32).toNatClampNeg v.toInt64))))
set_option maxHeartbeats 1000000 in
theorem D_151 {G : kG} {d : Nat} {A : kLb → Nat} {T : kT} {M : kM} {h : kH} {z : (Int32 × kM)} {mc ms : Nat} (hmc : 1 ≤ mc) (hms : 6 ≤ ms) (R : kRl A T M h) (hF : F_151 T  M = some z) : kRun G (d + 4) 151 [.ref (A lD), .ref (A lOu)] h mc ms (kPI A T z) := by
  refine ⟨⟨rfl, Nat.le_of_ble_eq_true rfl⟩, ?_⟩
  show kWP _ _ (kRun G (d + 3)) _ 0 [some (.ref (A lD)), some (.ref (A lOu)), none] [] _ _ _
  have K : (fun z : (Int32 × kM) => ∀ h1, kRl A T z.2 h1 → kPI A T z (.inl (some (.int z.1))) h1) z := fun _ q => ⟨rfl, q⟩
  unfold F_151 at hF
  refine k_aload_n (pc := 0) i_151_0 rfl rfl ?_
  refine k_iconst (pc := 1) (v := 0) i_151_1 (by decide) ?_
  refine k_aload_n (pc := 2) i_151_2 rfl rfl ?_
  obtain ⟨r1, M2, q3, hF⟩ := kBd_el hF
  refine kcx_I (pc := 3) (As := [.ref (A lD)]) (st := [.int 0, .ref (A lOu)]) (A := A) (T := T) (r := r1) (M1 := M2) i_151_3 m_8_42 rfl rfl rfl rfl (rd_D R) rfl rfl rfl ?_ (Nat.le_of_ble_eq_true rfl) (D_9 (Nat.le_refl _) (Nat.le_refl _) R q3) hmc hms (fun v h e R => ?_) (fun E q hp h e hh R => ?_)
  · intro E e
    replace hF := kSm_l e hF
    by_cases c1 : E = 1
    · exact ⟨_, by rw [c1]; exact h_151_3_1⟩
    exact absurd hF (by simp [c1])
  · replace hF := kSm_r e hF
    refine k_i2l (pc := 6) i_151_6 ?_
    obtain ⟨g4, hF⟩ := kGx_el hF
    refine k_last (pc := 7) i_151_7 (rd_Ou R) g4 (fun h e5 => ?_)
    replace R := kRl_so (k := (0 : Int32).toNatClampNeg) (v := v.toInt64) R e5
    clear e5
    refine k_goto (pc := 8) (tgt := 14) i_151_8 (by decide) ?_
    refine k_iconst (pc := 14) (v := 0) i_151_14 (by decide) ?_
    obtain rfl := Option.some.inj hF
    exact k_ireturn (pc := 15) i_151_15 rfl rfl (K _ R)
  · replace hF := kSm_l e hF
    by_cases c1 : E = 1
    · rw [if_pos c1] at hF
      rw [c1, h_151_3_1] at hh
      obtain rfl := Option.some.inj hh
      refine k_astore_n (pc := 11) (lo2 := [some (.ref (A lD)), some (.ref (A lOu)), some (.ref q)]) i_151_11 (Nat.le_of_ble_eq_true rfl) rfl rfl ?_
      refine k_iconst (pc := 12) (v := 1) i_151_12 (by decide) ?_
      obtain rfl := Option.some.inj hF
      exact k_ireturn (pc := 13) i_151_13 rfl rfl (K _ R)
    rw [if_neg c1] at hF
    cases hF
-- 152: cell
noncomputable def F_152 (T : kT) (a1 : Int32) (a2 : Int32) (a3 : Int32) (M : kM) : Option (Int32 × kM) :=
  kBd (F_10 T a1 a2 a3 M) (fun r1 M2 => kSm r1 (fun E => if E = 0 then (some (1, M2)) else (none)) (fun v => kGx 0 1 (some (0, so M2 (0 : Int32).toNatClampNeg v.toInt64))))
set_option maxHeartbeats 1000000 in
theorem D_152 {G : kG} {d : Nat} {A : kLb → Nat} {T : kT} {M : kM} {h : kH} {a1 : Int32} {a2 : Int32} {a3 : Int32} {z : (Int32 × kM)} {mc ms : Nat} (hmc : 1 ≤ mc) (hms : 6 ≤ ms) (R : kRl A T M h) (hF : F_152 T a1 a2 a3 M = some z) : kRun G (d + 4) 152 [.ref (A lD), .int a1, .int a2, .int a3, .ref (A lOu)] h mc ms (kPI A T z) := by
  refine ⟨⟨rfl, Nat.le_of_ble_eq_true rfl⟩, ?_⟩
  show kWP _ _ (kRun G (d + 3)) _ 0 [some (.ref (A lD)), some (.int a1), some (.int a2), some (.int a3), some (.ref (A lOu)), none] [] _ _ _
  have K : (fun z : (Int32 × kM) => ∀ h1, kRl A T z.2 h1 → kPI A T z (.inl (some (.int z.1))) h1) z := fun _ q => ⟨rfl, q⟩
  unfold F_152 at hF
  refine k_aload (pc := 0) i_152_0 rfl rfl ?_
  refine k_iconst (pc := 2) (v := 0) i_152_2 (by decide) ?_
  refine k_aload_n (pc := 3) i_152_3 rfl rfl ?_
  refine k_iload_n (pc := 4) i_152_4 rfl ?_
  refine k_iload_n (pc := 5) i_152_5 rfl ?_
  refine k_iload_n (pc := 6) i_152_6 rfl ?_
  obtain ⟨r1, M2, q3, hF⟩ := kBd_el hF
  refine kcx_I (pc := 7) (As := [.ref (A lD), .int a1, .int a2, .int a3]) (st := [.int 0, .ref (A lOu)]) (A := A) (T := T) (r := r1) (M1 := M2) i_152_7 m_8_45 rfl rfl rfl rfl (rd_D R) rfl rfl rfl ?_ (Nat.le_of_ble_eq_true rfl) (D_10 (Nat.le_refl _) (Nat.le_refl _) R q3) hmc hms (fun v h e R => ?_) (fun E q hp h e hh R => ?_)
  · intro E e
    replace hF := kSm_l e hF
    by_cases c0 : E = 0
    · exact ⟨_, by rw [c0]; exact h_152_7_0⟩
    exact absurd hF (by simp [c0])
  · replace hF := kSm_r e hF
    refine k_i2l (pc := 10) i_152_10 ?_
    obtain ⟨g4, hF⟩ := kGx_el hF
    refine k_last (pc := 11) i_152_11 (rd_Ou R) g4 (fun h e5 => ?_)
    replace R := kRl_so (k := (0 : Int32).toNatClampNeg) (v := v.toInt64) R e5
    clear e5
    refine k_goto (pc := 12) (tgt := 19) i_152_12 (by decide) ?_
    refine k_iconst (pc := 19) (v := 0) i_152_19 (by decide) ?_
    obtain rfl := Option.some.inj hF
    exact k_ireturn (pc := 20) i_152_20 rfl rfl (K _ R)
  · replace hF := kSm_l e hF
    by_cases c0 : E = 0
    · rw [if_pos c0] at hF
      rw [c0, h_152_7_0] at hh
      obtain rfl := Option.some.inj hh
      refine k_astore (pc := 15) (lo2 := [some (.ref (A lD)), some (.int a1), some (.int a2), some (.int a3), some (.ref (A lOu)), some (.ref q)]) i_152_15 (Nat.le_of_ble_eq_true rfl) rfl rfl ?_
      refine k_iconst (pc := 17) (v := 1) i_152_17 (by decide) ?_
      obtain rfl := Option.some.inj hF
      exact k_ireturn (pc := 18) i_152_18 rfl rfl (K _ R)
    rw [if_neg c0] at hF
    cases hF
-- 153: feed
noncomputable def F_153 (T : kT) (a1 : Int32) (M : kM) : Option (Int32 × kM) :=
  kBd (F_11 T a1 M) (fun r1 M2 => kSm r1 (fun E => if E = 1 then (some (1, M2)) else (none)) (fun v => kGx 0 1 (some (0, so M2 (0 : Int32).toNatClampNeg v.toInt64))))
set_option maxHeartbeats 1000000 in
theorem D_153 {G : kG} {d : Nat} {A : kLb → Nat} {T : kT} {M : kM} {h : kH} {a1 : Int32} {z : (Int32 × kM)} {mc ms : Nat} (hmc : 1 ≤ mc) (hms : 6 ≤ ms) (R : kRl A T M h) (hF : F_153 T a1 M = some z) : kRun G (d + 3) 153 [.ref (A lD), .int a1, .ref (A lOu)] h mc ms (kPI A T z) := by
  refine ⟨⟨rfl, Nat.le_of_ble_eq_true rfl⟩, ?_⟩
  show kWP _ _ (kRun G (d + 2)) _ 0 [some (.ref (A lD)), some (.int a1), some (.ref (A lOu)), none] [] _ _ _
  have K : (fun z : (Int32 × kM) => ∀ h1, kRl A T z.2 h1 → kPI A T z (.inl (some (.int z.1))) h1) z := fun _ q => ⟨rfl, q⟩
  unfold F_153 at hF
  refine k_aload_n (pc := 0) i_153_0 rfl rfl ?_
  refine k_iconst (pc := 1) (v := 0) i_153_1 (by decide) ?_
  refine k_aload_n (pc := 2) i_153_2 rfl rfl ?_
  refine k_iload_n (pc := 3) i_153_3 rfl ?_
  obtain ⟨r1, M2, q3, hF⟩ := kBd_el hF
  refine kcx_I (pc := 4) (As := [.ref (A lD), .int a1]) (st := [.int 0, .ref (A lOu)]) (A := A) (T := T) (r := r1) (M1 := M2) i_153_4 m_8_48 rfl rfl rfl rfl (rd_D R) rfl rfl rfl ?_ (Nat.le_of_ble_eq_true rfl) (D_11 (Nat.le_refl _) (Nat.le_refl _) R q3) hmc hms (fun v h e R => ?_) (fun E q hp h e hh R => ?_)
  · intro E e
    replace hF := kSm_l e hF
    by_cases c1 : E = 1
    · exact ⟨_, by rw [c1]; exact h_153_4_1⟩
    exact absurd hF (by simp [c1])
  · replace hF := kSm_r e hF
    refine k_i2l (pc := 7) i_153_7 ?_
    obtain ⟨g4, hF⟩ := kGx_el hF
    refine k_last (pc := 8) i_153_8 (rd_Ou R) g4 (fun h e5 => ?_)
    replace R := kRl_so (k := (0 : Int32).toNatClampNeg) (v := v.toInt64) R e5
    clear e5
    refine k_goto (pc := 9) (tgt := 15) i_153_9 (by decide) ?_
    refine k_iconst (pc := 15) (v := 0) i_153_15 (by decide) ?_
    obtain rfl := Option.some.inj hF
    exact k_ireturn (pc := 16) i_153_16 rfl rfl (K _ R)
  · replace hF := kSm_l e hF
    by_cases c1 : E = 1
    · rw [if_pos c1] at hF
      rw [c1, h_153_4_1] at hh
      obtain rfl := Option.some.inj hh
      refine k_astore_n (pc := 12) (lo2 := [some (.ref (A lD)), some (.int a1), some (.ref (A lOu)), some (.ref q)]) i_153_12 (Nat.le_of_ble_eq_true rfl) rfl rfl ?_
      refine k_iconst (pc := 13) (v := 1) i_153_13 (by decide) ?_
      obtain rfl := Option.some.inj hF
      exact k_ireturn (pc := 14) i_153_14 rfl rfl (K _ R)
    rw [if_neg c1] at hF
    cases hF
-- 154: prepare
noncomputable def F_154 (T : kT) (M : kM) : Option (Int32 × kT × kM) :=
  kBt (F_12 T  M) (fun r1 T4 M2 => kCh T T4 (kSm r1 (fun E => if E = 0 then (some (1, T4, M2)) else (none)) (fun v => kGx 0 1 (some (0, T4, so M2 (0 : Int32).toNatClampNeg v.toInt64)))))
set_option maxHeartbeats 1000000 in
theorem D_154 {G : kG} {d : Nat} {A : kLb → Nat} {T : kT} {M : kM} {h : kH} {z : (Int32 × kT × kM)} {mc ms : Nat} (hmc : kCc T z.2.1 + 1 ≤ mc) (hms : kCs T z.2.1 + 6 ≤ ms) (R : kRl A T M h) (hF : F_154 T  M = some z) : kRun G (d + 23) 154 [.ref (A lD), .ref (A lOu)] h mc ms (kPAI A T z) := by
  refine ⟨⟨rfl, Nat.le_of_ble_eq_true rfl⟩, ?_⟩
  show kWP _ _ (kRun G (d + 22)) _ 0 [some (.ref (A lD)), some (.ref (A lOu)), none] [] _ _ _
  have K : (fun z : (Int32 × kT × kM) => ∀ A' h1, kRl A' z.2.1 z.2.2 h1 → kExt T A A' → kPAI A T z (.inl (some (.int z.1))) h1) z := fun A2 _ q e => ⟨A2, q, e, rfl⟩
  unfold F_154 at hF
  refine k_aload_n (pc := 0) i_154_0 rfl rfl ?_
  refine k_iconst (pc := 1) (v := 0) i_154_1 (by decide) ?_
  refine k_aload_n (pc := 2) i_154_2 rfl rfl ?_
  obtain ⟨r1, T4, M2, q3, hF⟩ := kBt_el hF
  obtain ⟨l5, l6, hF⟩ := kCh_el hF
  refine kcxa_I (pc := 3) (As := [.ref (A lD)]) (st := [.int 0, .ref (A lOu)]) (A := A) (T := T) (T1 := T4) (r := r1) (M1 := M2) i_154_3 m_8_51 rfl rfl rfl rfl (rd_D R) rfl rfl rfl ?_ (Nat.le_of_ble_eq_true rfl) (D_12 (Nat.le_refl _) (Nat.le_refl _) R q3) (Nat.le_trans (Nat.add_le_add_right (kCc_le l5 l6) 1) hmc) (Nat.le_trans (Nat.add_le_add_right (kCs_le l5 l6) 6) hms) (fun v A h e R xA => ?_) (fun E q hp A h e hh R xA => ?_)
  · intro E e
    replace hF := kSm_l e hF
    by_cases c0 : E = 0
    · exact ⟨_, by rw [c0]; exact h_154_3_0⟩
    exact absurd hF (by simp [c0])
  · replace hF := kSm_r e hF
    rw [← xA lD rfl]
    rw [← xA lOu rfl]
    replace K := fun A' h1 q x => K A' h1 q (kExt_tr l5 xA x)
    refine k_i2l (pc := 6) i_154_6 ?_
    obtain ⟨g7, hF⟩ := kGx_el hF
    refine k_last (pc := 7) i_154_7 (rd_Ou R) g7 (fun h e8 => ?_)
    replace R := kRl_so (k := (0 : Int32).toNatClampNeg) (v := v.toInt64) R e8
    clear e8
    refine k_goto (pc := 8) (tgt := 14) i_154_8 (by decide) ?_
    refine k_iconst (pc := 14) (v := 0) i_154_14 (by decide) ?_
    obtain rfl := Option.some.inj hF
    exact k_ireturn (pc := 15) i_154_15 rfl rfl (K _ _ R (fun _ _ => rfl))
  · replace hF := kSm_l e hF
    rw [← xA lD rfl]
    rw [← xA lOu rfl]
    replace K := fun A' h1 q x => K A' h1 q (kExt_tr l5 xA x)
    by_cases c0 : E = 0
    · rw [if_pos c0] at hF
      rw [c0, h_154_3_0] at hh
      obtain rfl := Option.some.inj hh
      refine k_astore_n (pc := 11) (lo2 := [some (.ref (A lD)), some (.ref (A lOu)), some (.ref q)]) i_154_11 (Nat.le_of_ble_eq_true rfl) rfl rfl ?_
      refine k_iconst (pc := 12) (v := 1) i_154_12 (by decide) ?_
      obtain rfl := Option.some.inj hF
      exact k_ireturn (pc := 13) i_154_13 rfl rfl (K _ _ R (fun _ _ => rfl))
    rw [if_neg c0] at hF
    cases hF
-- 155: step
noncomputable def F_155 (T : kT) (a1 : Int32) (M : kM) : Option (Int32 × kM) :=
  kBd (F_14 T a1 M) (fun r1 M2 => kSm r1 (fun E => if E = 0 then (some (1, M2)) else (if E = 1 then (some (2, M2)) else (none))) (fun v => kGx 0 1 (some (0, so M2 (0 : Int32).toNatClampNeg v.toInt64))))
set_option maxHeartbeats 1000000 in
theorem D_155 {G : kG} {d : Nat} {A : kLb → Nat} {T : kT} {M : kM} {h : kH} {a1 : Int32} {z : (Int32 × kM)} {mc ms : Nat} (hmc : 1 ≤ mc) (hms : 6 ≤ ms) (R : kRl A T M h) (hF : F_155 T a1 M = some z) : kRun G (d + 56) 155 [.ref (A lD), .int a1, .ref (A lOu)] h mc ms (kPI A T z) := by
  refine ⟨⟨rfl, Nat.le_of_ble_eq_true rfl⟩, ?_⟩
  show kWP _ _ (kRun G (d + 55)) _ 0 [some (.ref (A lD)), some (.int a1), some (.ref (A lOu)), none] [] _ _ _
  have K : (fun z : (Int32 × kM) => ∀ h1, kRl A T z.2 h1 → kPI A T z (.inl (some (.int z.1))) h1) z := fun _ q => ⟨rfl, q⟩
  unfold F_155 at hF
  refine k_aload_n (pc := 0) i_155_0 rfl rfl ?_
  refine k_iconst (pc := 1) (v := 0) i_155_1 (by decide) ?_
  refine k_aload_n (pc := 2) i_155_2 rfl rfl ?_
  refine k_iload_n (pc := 3) i_155_3 rfl ?_
  obtain ⟨r1, M2, q3, hF⟩ := kBd_el hF
  refine kcx_I (pc := 4) (As := [.ref (A lD), .int a1]) (st := [.int 0, .ref (A lOu)]) (A := A) (T := T) (r := r1) (M1 := M2) i_155_4 m_8_54 rfl rfl rfl rfl (rd_D R) rfl rfl rfl ?_ (Nat.le_of_ble_eq_true rfl) (D_14 (Nat.le_refl _) (Nat.le_refl _) R q3) hmc hms (fun v h e R => ?_) (fun E q hp h e hh R => ?_)
  · intro E e
    replace hF := kSm_l e hF
    by_cases c0 : E = 0
    · exact ⟨_, by rw [c0]; exact h_155_4_0⟩
    by_cases c1 : E = 1
    · exact ⟨_, by rw [c1]; exact h_155_4_1⟩
    exact absurd hF (by simp [c0, c1])
  · replace hF := kSm_r e hF
    refine k_i2l (pc := 7) i_155_7 ?_
    obtain ⟨g4, hF⟩ := kGx_el hF
    refine k_last (pc := 8) i_155_8 (rd_Ou R) g4 (fun h e5 => ?_)
    replace R := kRl_so (k := (0 : Int32).toNatClampNeg) (v := v.toInt64) R e5
    clear e5
    refine k_goto (pc := 9) (tgt := 18) i_155_9 (by decide) ?_
    refine k_iconst (pc := 18) (v := 0) i_155_18 (by decide) ?_
    obtain rfl := Option.some.inj hF
    exact k_ireturn (pc := 19) i_155_19 rfl rfl (K _ R)
  · replace hF := kSm_l e hF
    by_cases c0 : E = 0
    · rw [if_pos c0] at hF
      rw [c0, h_155_4_0] at hh
      obtain rfl := Option.some.inj hh
      refine k_astore_n (pc := 12) (lo2 := [some (.ref (A lD)), some (.int a1), some (.ref (A lOu)), some (.ref q)]) i_155_12 (Nat.le_of_ble_eq_true rfl) rfl rfl ?_
      refine k_iconst (pc := 13) (v := 1) i_155_13 (by decide) ?_
      obtain rfl := Option.some.inj hF
      exact k_ireturn (pc := 14) i_155_14 rfl rfl (K _ R)
    rw [if_neg c0] at hF
    by_cases c1 : E = 1
    · rw [if_pos c1] at hF
      rw [c1, h_155_4_1] at hh
      obtain rfl := Option.some.inj hh
      refine k_astore_n (pc := 15) (lo2 := [some (.ref (A lD)), some (.int a1), some (.ref (A lOu)), some (.ref q)]) i_155_15 (Nat.le_of_ble_eq_true rfl) rfl rfl ?_
      refine k_iconst (pc := 16) (v := 2) i_155_16 (by decide) ?_
      obtain rfl := Option.some.inj hF
      exact k_ireturn (pc := 17) i_155_17 rfl rfl (K _ R)
    rw [if_neg c1] at hF
    cases hF
