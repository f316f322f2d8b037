/-! the law's beginning -/
def M0 : kM := (fun l => if l = lRd then (fun k => if k = 2 then -1 else 0) else if l = lMo then (fun k => if k = 14 then -1 else 0) else (fun _ => 0), fun _ _ => none, fun _ => 0)
theorem mlab : ∀ b : Nat, mlen b ≠ 0 → b = 2 ∨ b = 3 ∨ b = 4 ∨ b = 5 ∨ b = 6 ∨ b = 9 ∨ b = 10 ∨ b = 12 ∨ b = 13 ∨ b = 17 ∨ b = 18 ∨ b = 19 ∨ b = 20 ∨ b = 21 ∨ b = 26 ∨ b = 27 ∨ b = 28 ∨ b = 29 ∨ b = 30 ∨ b = 32 ∨ b = 33 ∨ b = 34 ∨ b = 38 ∨ b = 39
  | 0, h => absurd rfl h
  | 1, h => absurd rfl h
  | 2, h => by decide
  | 3, h => by decide
  | 4, h => by decide
  | 5, h => by decide
  | 6, h => by decide
  | 7, h => absurd rfl h
  | 8, h => absurd rfl h
  | 9, h => by decide
  | 10, h => by decide
  | 11, h => absurd rfl h
  | 12, h => by decide
  | 13, h => by decide
  | 14, h => absurd rfl h
  | 15, h => absurd rfl h
  | 16, h => absurd rfl h
  | 17, h => by decide
  | 18, h => by decide
  | 19, h => by decide
  | 20, h => by decide
  | 21, h => by decide
  | 22, h => absurd rfl h
  | 23, h => absurd rfl h
  | 24, h => absurd rfl h
  | 25, h => absurd rfl h
  | 26, h => by decide
  | 27, h => by decide
  | 28, h => by decide
  | 29, h => by decide
  | 30, h => by decide
  | 31, h => absurd rfl h
  | 32, h => by decide
  | 33, h => by decide
  | 34, h => by decide
  | 35, h => absurd rfl h
  | 36, h => absurd rfl h
  | 37, h => absurd rfl h
  | 38, h => by decide
  | 39, h => by decide
  | n + 40, h => absurd rfl h
theorem lab0 {l : kLb} (h : kLv (0, 0) l = true) : l = lD ∨ l = lTs ∨ l = lAl ∨ l = lHa ∨ l = lRd ∨ l = lWo ∨ l = lTe ∨ l = lRu ∨ l = lLa ∨ l = lMo ∨ l = lOu ∨ l = lMa 2 ∨ l = lMa 3 ∨ l = lMa 4 ∨ l = lMa 5 ∨ l = lMa 6 ∨ l = lMa 9 ∨ l = lMa 10 ∨ l = lMa 12 ∨ l = lMa 13 ∨ l = lMa 17 ∨ l = lMa 18 ∨ l = lMa 19 ∨ l = lMa 20 ∨ l = lMa 21 ∨ l = lMa 26 ∨ l = lMa 27 ∨ l = lMa 28 ∨ l = lMa 29 ∨ l = lMa 30 ∨ l = lMa 32 ∨ l = lMa 33 ∨ l = lMa 34 ∨ l = lMa 38 ∨ l = lMa 39 := by
  obtain ⟨a, b⟩ := l
  unfold kLv at h
  split at h
  case h_11 z =>
    have z : a = 21 := z
    have hm : mlen b ≠ 0 := of_decide_eq_true h
    subst z
    have h5 := mlab b hm
    rcases h5 with rfl | rfl | rfl | rfl | rfl | rfl | rfl | rfl | rfl | rfl | rfl | rfl | rfl | rfl | rfl | rfl | rfl | rfl | rfl | rfl | rfl | rfl | rfl | rfl
    · exact Or.inr (Or.inr (Or.inr (Or.inr (Or.inr (Or.inr (Or.inr (Or.inr (Or.inr (Or.inr (Or.inr (Or.inl rfl)))))))))))
    · exact Or.inr (Or.inr (Or.inr (Or.inr (Or.inr (Or.inr (Or.inr (Or.inr (Or.inr (Or.inr (Or.inr (Or.inr (Or.inl rfl))))))))))))
    · exact Or.inr (Or.inr (Or.inr (Or.inr (Or.inr (Or.inr (Or.inr (Or.inr (Or.inr (Or.inr (Or.inr (Or.inr (Or.inr (Or.inl rfl)))))))))))))
    · exact Or.inr (Or.inr (Or.inr (Or.inr (Or.inr (Or.inr (Or.inr (Or.inr (Or.inr (Or.inr (Or.inr (Or.inr (Or.inr (Or.inr (Or.inl rfl))))))))))))))
    · exact Or.inr (Or.inr (Or.inr (Or.inr (Or.inr (Or.inr (Or.inr (Or.inr (Or.inr (Or.inr (Or.inr (Or.inr (Or.inr (Or.inr (Or.inr (Or.inl rfl)))))))))))))))
    · exact Or.inr (Or.inr (Or.inr (Or.inr (Or.inr (Or.inr (Or.inr (Or.inr (Or.inr (Or.inr (Or.inr (Or.inr (Or.inr (Or.inr (Or.inr (Or.inr (Or.inl rfl))))))))))))))))
    · exact Or.inr (Or.inr (Or.inr (Or.inr (Or.inr (Or.inr (Or.inr (Or.inr (Or.inr (Or.inr (Or.inr (Or.inr (Or.inr (Or.inr (Or.inr (Or.inr (Or.inr (Or.inl rfl)))))))))))))))))
    · exact Or.inr (Or.inr (Or.inr (Or.inr (Or.inr (Or.inr (Or.inr (Or.inr (Or.inr (Or.inr (Or.inr (Or.inr (Or.inr (Or.inr (Or.inr (Or.inr (Or.inr (Or.inr (Or.inl rfl))))))))))))))))))
    · exact Or.inr (Or.inr (Or.inr (Or.inr (Or.inr (Or.inr (Or.inr (Or.inr (Or.inr (Or.inr (Or.inr (Or.inr (Or.inr (Or.inr (Or.inr (Or.inr (Or.inr (Or.inr (Or.inr (Or.inl rfl)))))))))))))))))))
    · exact Or.inr (Or.inr (Or.inr (Or.inr (Or.inr (Or.inr (Or.inr (Or.inr (Or.inr (Or.inr (Or.inr (Or.inr (Or.inr (Or.inr (Or.inr (Or.inr (Or.inr (Or.inr (Or.inr (Or.inr (Or.inl rfl))))))))))))))))))))
    · exact Or.inr (Or.inr (Or.inr (Or.inr (Or.inr (Or.inr (Or.inr (Or.inr (Or.inr (Or.inr (Or.inr (Or.inr (Or.inr (Or.inr (Or.inr (Or.inr (Or.inr (Or.inr (Or.inr (Or.inr (Or.inr (Or.inl rfl)))))))))))))))))))))
    · exact Or.inr (Or.inr (Or.inr (Or.inr (Or.inr (Or.inr (Or.inr (Or.inr (Or.inr (Or.inr (Or.inr (Or.inr (Or.inr (Or.inr (Or.inr (Or.inr (Or.inr (Or.inr (Or.inr (Or.inr (Or.inr (Or.inr (Or.inl rfl))))))))))))))))))))))
    · exact Or.inr (Or.inr (Or.inr (Or.inr (Or.inr (Or.inr (Or.inr (Or.inr (Or.inr (Or.inr (Or.inr (Or.inr (Or.inr (Or.inr (Or.inr (Or.inr (Or.inr (Or.inr (Or.inr (Or.inr (Or.inr (Or.inr (Or.inr (Or.inl rfl)))))))))))))))))))))))
    · exact Or.inr (Or.inr (Or.inr (Or.inr (Or.inr (Or.inr (Or.inr (Or.inr (Or.inr (Or.inr (Or.inr (Or.inr (Or.inr (Or.inr (Or.inr (Or.inr (Or.inr (Or.inr (Or.inr (Or.inr (Or.inr (Or.inr (Or.inr (Or.inr (Or.inl rfl))))))))))))))))))))))))
    · exact Or.inr (Or.inr (Or.inr (Or.inr (Or.inr (Or.inr (Or.inr (Or.inr (Or.inr (Or.inr (Or.inr (Or.inr (Or.inr (Or.inr (Or.inr (Or.inr (Or.inr (Or.inr (Or.inr (Or.inr (Or.inr (Or.inr (Or.inr (Or.inr (Or.inr (Or.inl rfl)))))))))))))))))))))))))
    · exact Or.inr (Or.inr (Or.inr (Or.inr (Or.inr (Or.inr (Or.inr (Or.inr (Or.inr (Or.inr (Or.inr (Or.inr (Or.inr (Or.inr (Or.inr (Or.inr (Or.inr (Or.inr (Or.inr (Or.inr (Or.inr (Or.inr (Or.inr (Or.inr (Or.inr (Or.inr (Or.inl rfl))))))))))))))))))))))))))
    · exact Or.inr (Or.inr (Or.inr (Or.inr (Or.inr (Or.inr (Or.inr (Or.inr (Or.inr (Or.inr (Or.inr (Or.inr (Or.inr (Or.inr (Or.inr (Or.inr (Or.inr (Or.inr (Or.inr (Or.inr (Or.inr (Or.inr (Or.inr (Or.inr (Or.inr (Or.inr (Or.inr (Or.inl rfl)))))))))))))))))))))))))))
    · exact Or.inr (Or.inr (Or.inr (Or.inr (Or.inr (Or.inr (Or.inr (Or.inr (Or.inr (Or.inr (Or.inr (Or.inr (Or.inr (Or.inr (Or.inr (Or.inr (Or.inr (Or.inr (Or.inr (Or.inr (Or.inr (Or.inr (Or.inr (Or.inr (Or.inr (Or.inr (Or.inr (Or.inr (Or.inl rfl))))))))))))))))))))))))))))
    · exact Or.inr (Or.inr (Or.inr (Or.inr (Or.inr (Or.inr (Or.inr (Or.inr (Or.inr (Or.inr (Or.inr (Or.inr (Or.inr (Or.inr (Or.inr (Or.inr (Or.inr (Or.inr (Or.inr (Or.inr (Or.inr (Or.inr (Or.inr (Or.inr (Or.inr (Or.inr (Or.inr (Or.inr (Or.inr (Or.inl rfl)))))))))))))))))))))))))))))
    · exact Or.inr (Or.inr (Or.inr (Or.inr (Or.inr (Or.inr (Or.inr (Or.inr (Or.inr (Or.inr (Or.inr (Or.inr (Or.inr (Or.inr (Or.inr (Or.inr (Or.inr (Or.inr (Or.inr (Or.inr (Or.inr (Or.inr (Or.inr (Or.inr (Or.inr (Or.inr (Or.inr (Or.inr (Or.inr (Or.inr (Or.inl rfl))))))))))))))))))))))))))))))
    · exact Or.inr (Or.inr (Or.inr (Or.inr (Or.inr (Or.inr (Or.inr (Or.inr (Or.inr (Or.inr (Or.inr (Or.inr (Or.inr (Or.inr (Or.inr (Or.inr (Or.inr (Or.inr (Or.inr (Or.inr (Or.inr (Or.inr (Or.inr (Or.inr (Or.inr (Or.inr (Or.inr (Or.inr (Or.inr (Or.inr (Or.inr (Or.inl rfl)))))))))))))))))))))))))))))))
    · exact Or.inr (Or.inr (Or.inr (Or.inr (Or.inr (Or.inr (Or.inr (Or.inr (Or.inr (Or.inr (Or.inr (Or.inr (Or.inr (Or.inr (Or.inr (Or.inr (Or.inr (Or.inr (Or.inr (Or.inr (Or.inr (Or.inr (Or.inr (Or.inr (Or.inr (Or.inr (Or.inr (Or.inr (Or.inr (Or.inr (Or.inr (Or.inr (Or.inl rfl))))))))))))))))))))))))))))))))
    · exact Or.inr (Or.inr (Or.inr (Or.inr (Or.inr (Or.inr (Or.inr (Or.inr (Or.inr (Or.inr (Or.inr (Or.inr (Or.inr (Or.inr (Or.inr (Or.inr (Or.inr (Or.inr (Or.inr (Or.inr (Or.inr (Or.inr (Or.inr (Or.inr (Or.inr (Or.inr (Or.inr (Or.inr (Or.inr (Or.inr (Or.inr (Or.inr (Or.inr (Or.inl rfl)))))))))))))))))))))))))))))))))
    · exact Or.inr (Or.inr (Or.inr (Or.inr (Or.inr (Or.inr (Or.inr (Or.inr (Or.inr (Or.inr (Or.inr (Or.inr (Or.inr (Or.inr (Or.inr (Or.inr (Or.inr (Or.inr (Or.inr (Or.inr (Or.inr (Or.inr (Or.inr (Or.inr (Or.inr (Or.inr (Or.inr (Or.inr (Or.inr (Or.inr (Or.inr (Or.inr (Or.inr (Or.inr (rfl))))))))))))))))))))))))))))))))))
  case h_12 =>
    rw [Bool.and_eq_true] at h
    have h1 : a ≤ 10 := of_decide_eq_true h.1
    have h2 : b = 0 := of_decide_eq_true h.2
    subst h2
    have h3 : a = 0 ∨ a = 1 ∨ a = 2 ∨ a = 3 ∨ a = 4 ∨ a = 5 ∨ a = 6 ∨ a = 7 ∨ a = 8 ∨ a = 9 ∨ a = 10 := by omega
    rcases h3 with rfl | rfl | rfl | rfl | rfl | rfl | rfl | rfl | rfl | rfl | rfl
    · exact Or.inl rfl
    · exact Or.inr (Or.inl rfl)
    · exact Or.inr (Or.inr (Or.inl rfl))
    · exact Or.inr (Or.inr (Or.inr (Or.inl rfl)))
    · exact Or.inr (Or.inr (Or.inr (Or.inr (Or.inl rfl))))
    · exact Or.inr (Or.inr (Or.inr (Or.inr (Or.inr (Or.inl rfl)))))
    · exact Or.inr (Or.inr (Or.inr (Or.inr (Or.inr (Or.inr (Or.inl rfl))))))
    · exact Or.inr (Or.inr (Or.inr (Or.inr (Or.inr (Or.inr (Or.inr (Or.inl rfl)))))))
    · exact Or.inr (Or.inr (Or.inr (Or.inr (Or.inr (Or.inr (Or.inr (Or.inr (Or.inl rfl))))))))
    · exact Or.inr (Or.inr (Or.inr (Or.inr (Or.inr (Or.inr (Or.inr (Or.inr (Or.inr (Or.inr (Or.inl rfl))))))))))
    · exact Or.inr (Or.inr (Or.inr (Or.inr (Or.inr (Or.inr (Or.inr (Or.inr (Or.inr (Or.inl rfl)))))))))
  all_goals exact absurd (of_decide_eq_true h) (Nat.not_lt_zero _)
set_option maxHeartbeats 4000000 in
set_option maxRecDepth 8000 in
theorem law_start {G : kG} {Mz : kM} (hF : F_156_23 G 0 (0, 0) M0 600989 7179658 = some (1, Mz)) : kWP G 156 (kRun G 60) (fun o _ => o = .inl (some (.int 1))) 0 (kEntry 156 [.ref G.1]) [] (fun _ => none) 601024 7293034 := by
  show kWP _ _ _ _ 0 [some (.ref G.1), none, none, none, none, none, none] [] _ _ _
  have R0 : kRx (fun _ => 0) (fun _ => false) (fun _ => kAJ 2 0 (fun _ => 0)) (fun _ => none) := ⟨fun _ _ z => absurd z Bool.false_ne_true, fun _ z => absurd z Bool.false_ne_true⟩
  refine k_new (pc := 0) i_156_0 n_8_8 rfl (Nat.le_of_ble_eq_true rfl) (Nat.le_of_ble_eq_true rfl) (fun q1 h nq1 eq1 => ?_)
  replace R0 := kRx_new (l := lD) (e := kOb 0 [.null, .null, .null, .null, .null, .int 0, .null]) R0 nq1 eq1 rfl
  clear nq1 eq1
  refine k_dup (pc := 3) i_156_3 rfl ?_
  refine kcI (pc := 4) (As := [.ref q1]) (st := [.ref q1]) (mc1 := 8) (ms1 := 156) i_156_4 m_8_57 rfl rfl rfl rfl (Nat.le_of_ble_eq_true rfl) (I_0 (d := 58) R0 (lup_self _ _ _) (lup_self _ _ _) (lup_self _ _ _) rfl rfl rfl rfl rfl rfl rfl rfl ) (fun E h1 z => by cases z.1) (Nat.le_of_ble_eq_true rfl) (Nat.le_of_ble_eq_true rfl) (fun v h hP => ?_)
  obtain ⟨z1, A1, E1, R1, x1, y1, f_lD, f_lTs, f_lAl, f_lHa, f_lRd, f_lWo, f_lTe, f_lRu, f_lLa⟩ := hP
  cases z1
  have d1 : A1 lD = q1 := (x1 lD rfl).trans (lup_self _ _ _)
  clear R0 x1 y1
  refine k_astore_n (pc := 7) (lo2 := [some (.ref G.1), some (.ref q1), none, none, none, none, none]) i_156_7 (Nat.le_of_ble_eq_true rfl) rfl rfl ?_
  refine k_new (pc := 8) i_156_8 n_8_58 rfl (Nat.le_of_ble_eq_true rfl) (Nat.le_of_ble_eq_true rfl) (fun q2 h nq2 eq2 => ?_)
  replace R1 := kRx_new (l := lMo) (e := kOb 7 [.int 0, .int 0, .null, .null, .null, .null, .null, .int 0, .int 0, .null, .null, .int 0, .null, .null, .int 0, .int 0, .int 0, .null, .null, .null, .null, .null, .int 0, .int 0, .int 0, .int 0, .null, .null, .null, .null, .null, .int 0, .null, .null, .null, .int 0, .int 0, .int 0, .null, .null]) R1 nq2 eq2 rfl
  clear nq2 eq2
  refine k_dup (pc := 11) i_156_11 rfl ?_
  refine kcI (pc := 12) (As := [.ref q2]) (st := [.ref q2]) (mc1 := 24) (ms1 := 113172) i_156_12 m_8_60 rfl rfl rfl rfl (Nat.le_of_ble_eq_true rfl) (I_93 (d := 59) R1 (lup_self _ _ _) (lup_self _ _ _) (lup_self _ _ _) rfl rfl rfl rfl rfl rfl rfl rfl rfl rfl rfl rfl rfl rfl rfl rfl rfl rfl rfl rfl rfl rfl rfl rfl ) (fun E h1 z => by cases z.1) (Nat.le_of_ble_eq_true rfl) (Nat.le_of_ble_eq_true rfl) (fun v h hP => ?_)
  obtain ⟨z3, A3, E3, R3, x3, y3, g_lMo, g_2, g_3, g_4, g_5, g_6, g_9, g_10, g_12, g_13, g_17, g_18, g_19, g_20, g_21, g_26, g_27, g_28, g_29, g_30, g_32, g_33, g_34, g_38, g_39⟩ := hP
  cases z3
  have d2 : A3 lMo = q2 := (x3 lMo rfl).trans (lup_self _ _ _)
  have p_lD : A3 lD = A1 lD := (x3 lD rfl).trans (lup_ne (neF rfl))
  have p_lTs : A3 lTs = A1 lTs := (x3 lTs rfl).trans (lup_ne (neF rfl))
  have p_lAl : A3 lAl = A1 lAl := (x3 lAl rfl).trans (lup_ne (neF rfl))
  have p_lHa : A3 lHa = A1 lHa := (x3 lHa rfl).trans (lup_ne (neF rfl))
  have p_lRd : A3 lRd = A1 lRd := (x3 lRd rfl).trans (lup_ne (neF rfl))
  have p_lWo : A3 lWo = A1 lWo := (x3 lWo rfl).trans (lup_ne (neF rfl))
  have p_lTe : A3 lTe = A1 lTe := (x3 lTe rfl).trans (lup_ne (neF rfl))
  have p_lRu : A3 lRu = A1 lRu := (x3 lRu rfl).trans (lup_ne (neF rfl))
  have p_lLa : A3 lLa = A1 lLa := (x3 lLa rfl).trans (lup_ne (neF rfl))
  have e_lD := (y3 lD rfl (neF rfl)).trans ((lup_ne (neF rfl)).trans f_lD)
  have e_lTs := (y3 lTs rfl (neF rfl)).trans ((lup_ne (neF rfl)).trans f_lTs)
  have e_lAl := (y3 lAl rfl (neF rfl)).trans ((lup_ne (neF rfl)).trans f_lAl)
  have e_lHa := (y3 lHa rfl (neF rfl)).trans ((lup_ne (neF rfl)).trans f_lHa)
  have e_lRd := (y3 lRd rfl (neF rfl)).trans ((lup_ne (neF rfl)).trans f_lRd)
  have e_lWo := (y3 lWo rfl (neF rfl)).trans ((lup_ne (neF rfl)).trans f_lWo)
  have e_lTe := (y3 lTe rfl (neF rfl)).trans ((lup_ne (neF rfl)).trans f_lTe)
  have e_lRu := (y3 lRu rfl (neF rfl)).trans ((lup_ne (neF rfl)).trans f_lRu)
  have e_lLa := (y3 lLa rfl (neF rfl)).trans ((lup_ne (neF rfl)).trans f_lLa)
  clear R1 x3 y3
  refine k_astore_n (pc := 15) (lo2 := [some (.ref G.1), some (.ref q1), some (.ref q2), none, none, none, none]) i_156_15 (Nat.le_of_ble_eq_true rfl) rfl rfl ?_
  refine k_iconst (pc := 16) (v := 1) i_156_16 (by decide) ?_
  refine k_newj (pc := 17) (N := 1) i_156_17 (by decide) rfl (Nat.le_of_ble_eq_true rfl) (Nat.le_of_ble_eq_true rfl) (Nat.le_of_ble_eq_true rfl) (fun q4 h nq4 eq4 => ?_)
  have R4 := kRx_new (l := lOu) (e := kAJ 2 1 (fun _ => 0)) R3 nq4 eq4 rfl
  clear R3 nq4 eq4
  refine k_astore_n (pc := 19) (lo2 := [some (.ref G.1), some (.ref q1), some (.ref q2), some (.ref q4), none, none, none]) i_156_19 (Nat.le_of_ble_eq_true rfl) rfl rfl ?_
  refine k_iconst (pc := 20) (v := 0) i_156_20 (by decide) ?_
  refine k_istore (pc := 21) (lo2 := [some (.ref G.1), some (.ref q1), some (.ref q2), some (.ref q4), some (.int 0), none, none]) i_156_21 (Nat.le_of_ble_eq_true rfl) rfl ?_
  have R : kRl (lup A3 lOu q4) (0, 0) M0 h := by
    refine ⟨fun l l' a b => R4.1 l l' ?_ ?_, fun l a => ?_⟩
    · rcases lab0 a with rfl | rfl | rfl | rfl | rfl | rfl | rfl | rfl | rfl | rfl | rfl | rfl | rfl | rfl | rfl | rfl | rfl | rfl | rfl | rfl | rfl | rfl | rfl | rfl | rfl | rfl | rfl | rfl | rfl | rfl | rfl | rfl | rfl | rfl | rfl <;> rfl
    · rcases lab0 b with rfl | rfl | rfl | rfl | rfl | rfl | rfl | rfl | rfl | rfl | rfl | rfl | rfl | rfl | rfl | rfl | rfl | rfl | rfl | rfl | rfl | rfl | rfl | rfl | rfl | rfl | rfl | rfl | rfl | rfl | rfl | rfl | rfl | rfl | rfl <;> rfl
    · rcases lab0 a with rfl | rfl | rfl | rfl | rfl | rfl | rfl | rfl | rfl | rfl | rfl | rfl | rfl | rfl | rfl | rfl | rfl | rfl | rfl | rfl | rfl | rfl | rfl | rfl | rfl | rfl | rfl | rfl | rfl | rfl | rfl | rfl | rfl | rfl | rfl
      · rw [R4.2 lD rfl, show lup E3 lOu (kAJ 2 1 (fun _ => 0)) lD = _ from (lup_ne (neF rfl)).trans e_lD]
        unfold ment mentG
        rw [show lup A3 lOu q4 lTs = A1 lTs from (lup_ne (neF rfl)).trans p_lTs]
        rw [show lup A3 lOu q4 lHa = A1 lHa from (lup_ne (neF rfl)).trans p_lHa]
        rw [show lup A3 lOu q4 lRd = A1 lRd from (lup_ne (neF rfl)).trans p_lRd]
        rw [show lup A3 lOu q4 lRu = A1 lRu from (lup_ne (neF rfl)).trans p_lRu]
        rw [show lup A3 lOu q4 lLa = A1 lLa from (lup_ne (neF rfl)).trans p_lLa]
        rfl
      · rw [R4.2 lTs rfl, show lup E3 lOu (kAJ 2 1 (fun _ => 0)) lTs = _ from (lup_ne (neF rfl)).trans e_lTs]
        unfold ment mentG
        rw [show lup A3 lOu q4 lAl = A1 lAl from (lup_ne (neF rfl)).trans p_lAl]
        rfl
      · rw [R4.2 lAl rfl, show lup E3 lOu (kAJ 2 1 (fun _ => 0)) lAl = _ from (lup_ne (neF rfl)).trans e_lAl]
        rfl
      · rw [R4.2 lHa rfl, show lup E3 lOu (kAJ 2 1 (fun _ => 0)) lHa = _ from (lup_ne (neF rfl)).trans e_lHa]
        rfl
      · rw [R4.2 lRd rfl, show lup E3 lOu (kAJ 2 1 (fun _ => 0)) lRd = _ from (lup_ne (neF rfl)).trans e_lRd]
        unfold ment mentG
        rw [show lup A3 lOu q4 lWo = A1 lWo from (lup_ne (neF rfl)).trans p_lWo]
        rw [show lup A3 lOu q4 lTe = A1 lTe from (lup_ne (neF rfl)).trans p_lTe]
        rfl
      · rw [R4.2 lWo rfl, show lup E3 lOu (kAJ 2 1 (fun _ => 0)) lWo = _ from (lup_ne (neF rfl)).trans e_lWo]
        rfl
      · rw [R4.2 lTe rfl, show lup E3 lOu (kAJ 2 1 (fun _ => 0)) lTe = _ from (lup_ne (neF rfl)).trans e_lTe]
        rfl
      · rw [R4.2 lRu rfl, show lup E3 lOu (kAJ 2 1 (fun _ => 0)) lRu = _ from (lup_ne (neF rfl)).trans e_lRu]
        rfl
      · rw [R4.2 lLa rfl, show lup E3 lOu (kAJ 2 1 (fun _ => 0)) lLa = _ from (lup_ne (neF rfl)).trans e_lLa]
        rfl
      · rw [R4.2 lMo rfl, show lup E3 lOu (kAJ 2 1 (fun _ => 0)) lMo = _ from (lup_ne (neF rfl)).trans g_lMo]
        unfold ment mentG
        rw [show lup A3 lOu q4 (lMa 2) = A3 (lMa 2) from lup_ne (neF rfl)]
        rw [show lup A3 lOu q4 (lMa 3) = A3 (lMa 3) from lup_ne (neF rfl)]
        rw [show lup A3 lOu q4 (lMa 4) = A3 (lMa 4) from lup_ne (neF rfl)]
        rw [show lup A3 lOu q4 (lMa 5) = A3 (lMa 5) from lup_ne (neF rfl)]
        rw [show lup A3 lOu q4 (lMa 6) = A3 (lMa 6) from lup_ne (neF rfl)]
        rw [show lup A3 lOu q4 (lMa 9) = A3 (lMa 9) from lup_ne (neF rfl)]
        rw [show lup A3 lOu q4 (lMa 10) = A3 (lMa 10) from lup_ne (neF rfl)]
        rw [show lup A3 lOu q4 (lMa 12) = A3 (lMa 12) from lup_ne (neF rfl)]
        rw [show lup A3 lOu q4 (lMa 13) = A3 (lMa 13) from lup_ne (neF rfl)]
        rw [show lup A3 lOu q4 (lMa 17) = A3 (lMa 17) from lup_ne (neF rfl)]
        rw [show lup A3 lOu q4 (lMa 18) = A3 (lMa 18) from lup_ne (neF rfl)]
        rw [show lup A3 lOu q4 (lMa 19) = A3 (lMa 19) from lup_ne (neF rfl)]
        rw [show lup A3 lOu q4 (lMa 20) = A3 (lMa 20) from lup_ne (neF rfl)]
        rw [show lup A3 lOu q4 (lMa 21) = A3 (lMa 21) from lup_ne (neF rfl)]
        rw [show lup A3 lOu q4 (lMa 26) = A3 (lMa 26) from lup_ne (neF rfl)]
        rw [show lup A3 lOu q4 (lMa 27) = A3 (lMa 27) from lup_ne (neF rfl)]
        rw [show lup A3 lOu q4 (lMa 28) = A3 (lMa 28) from lup_ne (neF rfl)]
        rw [show lup A3 lOu q4 (lMa 29) = A3 (lMa 29) from lup_ne (neF rfl)]
        rw [show lup A3 lOu q4 (lMa 30) = A3 (lMa 30) from lup_ne (neF rfl)]
        rw [show lup A3 lOu q4 (lMa 32) = A3 (lMa 32) from lup_ne (neF rfl)]
        rw [show lup A3 lOu q4 (lMa 33) = A3 (lMa 33) from lup_ne (neF rfl)]
        rw [show lup A3 lOu q4 (lMa 34) = A3 (lMa 34) from lup_ne (neF rfl)]
        rw [show lup A3 lOu q4 (lMa 38) = A3 (lMa 38) from lup_ne (neF rfl)]
        rw [show lup A3 lOu q4 (lMa 39) = A3 (lMa 39) from lup_ne (neF rfl)]
        rfl
      · rw [R4.2 lOu rfl]
        exact congrArg some (lup_self _ _ _)
      · rw [R4.2 (lMa 2) rfl, show lup E3 lOu (kAJ 2 1 (fun _ => 0)) (lMa 2) = _ from (lup_ne (neF rfl)).trans g_2]
        rfl
      · rw [R4.2 (lMa 3) rfl, show lup E3 lOu (kAJ 2 1 (fun _ => 0)) (lMa 3) = _ from (lup_ne (neF rfl)).trans g_3]
        rfl
      · rw [R4.2 (lMa 4) rfl, show lup E3 lOu (kAJ 2 1 (fun _ => 0)) (lMa 4) = _ from (lup_ne (neF rfl)).trans g_4]
        rfl
      · rw [R4.2 (lMa 5) rfl, show lup E3 lOu (kAJ 2 1 (fun _ => 0)) (lMa 5) = _ from (lup_ne (neF rfl)).trans g_5]
        rfl
      · rw [R4.2 (lMa 6) rfl, show lup E3 lOu (kAJ 2 1 (fun _ => 0)) (lMa 6) = _ from (lup_ne (neF rfl)).trans g_6]
        rfl
      · rw [R4.2 (lMa 9) rfl, show lup E3 lOu (kAJ 2 1 (fun _ => 0)) (lMa 9) = _ from (lup_ne (neF rfl)).trans g_9]
        rfl
      · rw [R4.2 (lMa 10) rfl, show lup E3 lOu (kAJ 2 1 (fun _ => 0)) (lMa 10) = _ from (lup_ne (neF rfl)).trans g_10]
        rfl
      · rw [R4.2 (lMa 12) rfl, show lup E3 lOu (kAJ 2 1 (fun _ => 0)) (lMa 12) = _ from (lup_ne (neF rfl)).trans g_12]
        rfl
      · rw [R4.2 (lMa 13) rfl, show lup E3 lOu (kAJ 2 1 (fun _ => 0)) (lMa 13) = _ from (lup_ne (neF rfl)).trans g_13]
        rfl
      · rw [R4.2 (lMa 17) rfl, show lup E3 lOu (kAJ 2 1 (fun _ => 0)) (lMa 17) = _ from (lup_ne (neF rfl)).trans g_17]
        rfl
      · rw [R4.2 (lMa 18) rfl, show lup E3 lOu (kAJ 2 1 (fun _ => 0)) (lMa 18) = _ from (lup_ne (neF rfl)).trans g_18]
        rfl
      · rw [R4.2 (lMa 19) rfl, show lup E3 lOu (kAJ 2 1 (fun _ => 0)) (lMa 19) = _ from (lup_ne (neF rfl)).trans g_19]
        rfl
      · rw [R4.2 (lMa 20) rfl, show lup E3 lOu (kAJ 2 1 (fun _ => 0)) (lMa 20) = _ from (lup_ne (neF rfl)).trans g_20]
        rfl
      · rw [R4.2 (lMa 21) rfl, show lup E3 lOu (kAJ 2 1 (fun _ => 0)) (lMa 21) = _ from (lup_ne (neF rfl)).trans g_21]
        rfl
      · rw [R4.2 (lMa 26) rfl, show lup E3 lOu (kAJ 2 1 (fun _ => 0)) (lMa 26) = _ from (lup_ne (neF rfl)).trans g_26]
        rfl
      · rw [R4.2 (lMa 27) rfl, show lup E3 lOu (kAJ 2 1 (fun _ => 0)) (lMa 27) = _ from (lup_ne (neF rfl)).trans g_27]
        rfl
      · rw [R4.2 (lMa 28) rfl, show lup E3 lOu (kAJ 2 1 (fun _ => 0)) (lMa 28) = _ from (lup_ne (neF rfl)).trans g_28]
        rfl
      · rw [R4.2 (lMa 29) rfl, show lup E3 lOu (kAJ 2 1 (fun _ => 0)) (lMa 29) = _ from (lup_ne (neF rfl)).trans g_29]
        rfl
      · rw [R4.2 (lMa 30) rfl, show lup E3 lOu (kAJ 2 1 (fun _ => 0)) (lMa 30) = _ from (lup_ne (neF rfl)).trans g_30]
        rfl
      · rw [R4.2 (lMa 32) rfl, show lup E3 lOu (kAJ 2 1 (fun _ => 0)) (lMa 32) = _ from (lup_ne (neF rfl)).trans g_32]
        rfl
      · rw [R4.2 (lMa 33) rfl, show lup E3 lOu (kAJ 2 1 (fun _ => 0)) (lMa 33) = _ from (lup_ne (neF rfl)).trans g_33]
        rfl
      · rw [R4.2 (lMa 34) rfl, show lup E3 lOu (kAJ 2 1 (fun _ => 0)) (lMa 34) = _ from (lup_ne (neF rfl)).trans g_34]
        rfl
      · rw [R4.2 (lMa 38) rfl, show lup E3 lOu (kAJ 2 1 (fun _ => 0)) (lMa 38) = _ from (lup_ne (neF rfl)).trans g_38]
        rfl
      · rw [R4.2 (lMa 39) rfl, show lup E3 lOu (kAJ 2 1 (fun _ => 0)) (lMa 39) = _ from (lup_ne (neF rfl)).trans g_39]
        rfl
  have K : (fun z : (Int32 × kM) => ∀ h1, (fun (o : kO) (_ : kH) => o = .inl (some (.int 1))) (.inl (some (.int z.1))) h1) (1, Mz) := fun _ => rfl
  have w := W_156_23 (d := 4) (C := kRun G 60) (P := fun o _ => o = .inl (some (.int 1))) (b5 := none) (b6 := none) rfl R K hF
  rw [show lup A3 lOu q4 lD = q1 from (lup_ne (neF rfl)).trans (p_lD.trans d1), show lup A3 lOu q4 lMo = q2 from (lup_ne (neF rfl)).trans d2, show lup A3 lOu q4 lOu = q4 from lup_self _ _ _] at w
  exact w
