abbrev Num (T : kT) (m k t p : Nat) (C R : kM) : Prop := ∃ C' R', F_40 T (some t) C = some ((), C') ∧ F_116 T (nI k) R = some ((), R') ∧ frN t C C' ∧ relR R R' ∧ (∀ j, gq C' (lTm t) 6 = some j → gq C (lTm t) 6 = some j ∨ j < T.1) ∧ (FS m C' R' ∨ ∃ p', RS m p' C' R' ∧ nmF T k t p p' C C' R)
set_option maxHeartbeats 4000000 in
theorem f116_0 {T : kT} {R : kM} : F_116 T (nI 0) R = kBd (F_113 T 0 (gp R lMo 1 - 1) R) (fun _ R1 => some ((), R1)) := by
  unfold F_116 F_116_18 F_116_45 F_116_57 F_116_72 F_116_85 F_116_98 F_116_109 F_116_123
  simp (disch := omega) only [pn_mulL, pn_addL, pn_addR, pn_ltL, pn_ltR, pn_leL, pn_leR, pn_eqL, pn_eqR, pn_subL, pn_z, pn_add, pn_mul, pn_nat, pn_inj, pn_lt, pn_le, pn_neg, kGx_nI, kGx_L, kGd_t, kBd_s, kOpt_s, kOpt_n, kLf_s, kAg_l, kAg_r, kAg_f, if_true, if_false, ite_true, ite_false, eq_self_iff_true, ↓reduceIte, Nat.reduceEqDiff, Nat.reduceLeDiff, Nat.reduceLT, Nat.reduceAdd, Nat.reduceMul, Nat.reduceSub, Int32.reduceLT, Int32.reduceLE, Nat.add_zero, Nat.zero_add, Nat.succ_ne_self, Nat.not_lt_zero, Nat.one_ne_zero, Nat.zero_ne_one, i01, i02, i03, i04, i10, i12, i13, i14, i20, i21, i23, i24, i30, i31, i32, i34, i40, i41, i42, i43, not_true_eq_false, not_false_eq_true]
set_option maxHeartbeats 4000000 in
theorem f116_1 {T : kT} {R : kM} : F_116 T (nI 1) R = kBd (F_114 T R) (fun _ R1 => kBd (F_113 T 0 5 R1) (fun _ R2 => kBd (F_114 T R2) (fun _ R3 => some ((), R3)))) := by
  unfold F_116 F_116_18 F_116_40 F_116_45 F_116_57 F_116_67 F_116_72 F_116_85 F_116_98 F_116_109 F_116_123
  simp (disch := omega) only [pn_mulL, pn_addL, pn_addR, pn_ltL, pn_ltR, pn_leL, pn_leR, pn_eqL, pn_eqR, pn_subL, pn_z, pn_add, pn_mul, pn_nat, pn_inj, pn_lt, pn_le, pn_neg, kGx_nI, kGx_L, kGd_t, kBd_s, kOpt_s, kOpt_n, kLf_s, kAg_l, kAg_r, kAg_f, if_true, if_false, ite_true, ite_false, eq_self_iff_true, ↓reduceIte, Nat.reduceEqDiff, Nat.reduceLeDiff, Nat.reduceLT, Nat.reduceAdd, Nat.reduceMul, Nat.reduceSub, Int32.reduceLT, Int32.reduceLE, Nat.add_zero, Nat.zero_add, Nat.succ_ne_self, Nat.not_lt_zero, Nat.one_ne_zero, Nat.zero_ne_one, i01, i02, i03, i04, i10, i12, i13, i14, i20, i21, i23, i24, i30, i31, i32, i34, i40, i41, i42, i43, not_true_eq_false, not_false_eq_true]
set_option maxHeartbeats 4000000 in
theorem f116_2 {T : kT} {R : kM} : F_116 T (nI 2) R = kBd (F_113 T 1 8 R) (fun x R1 => F_116_139 T x 0 R1) := by
  unfold F_116 F_116_18 F_116_45 F_116_57 F_116_72 F_116_85 F_116_98 F_116_109 F_116_123
  simp (disch := omega) only [pn_mulL, pn_addL, pn_addR, pn_ltL, pn_ltR, pn_leL, pn_leR, pn_eqL, pn_eqR, pn_subL, pn_z, pn_add, pn_mul, pn_nat, pn_inj, pn_lt, pn_le, pn_neg, kGx_nI, kGx_L, kGd_t, kBd_s, kOpt_s, kOpt_n, kLf_s, kAg_l, kAg_r, kAg_f, if_true, if_false, ite_true, ite_false, eq_self_iff_true, ↓reduceIte, Nat.reduceEqDiff, Nat.reduceLeDiff, Nat.reduceLT, Nat.reduceAdd, Nat.reduceMul, Nat.reduceSub, Int32.reduceLT, Int32.reduceLE, Nat.add_zero, Nat.zero_add, Nat.succ_ne_self, Nat.not_lt_zero, Nat.one_ne_zero, Nat.zero_ne_one, i01, i02, i03, i04, i10, i12, i13, i14, i20, i21, i23, i24, i30, i31, i32, i34, i40, i41, i42, i43, not_true_eq_false, not_false_eq_true]
set_option maxHeartbeats 4000000 in
theorem f116_n {T : kT} {R : kM} {k : Nat} (h : k = 3 ∨ k = 5 ∨ k = 6 ∨ k = 9) : F_116 T (nI k) R = some ((), R) := by
  unfold F_116 F_116_18 F_116_45 F_116_57 F_116_72 F_116_85 F_116_98 F_116_109 F_116_123
  rcases h with rfl | rfl | rfl | rfl <;> simp (disch := omega) only [pn_mulL, pn_addL, pn_addR, pn_ltL, pn_ltR, pn_leL, pn_leR, pn_eqL, pn_eqR, pn_subL, pn_z, pn_add, pn_mul, pn_nat, pn_inj, pn_lt, pn_le, pn_neg, kGx_nI, kGx_L, kGd_t, kBd_s, kOpt_s, kOpt_n, kLf_s, kAg_l, kAg_r, kAg_f, if_true, if_false, ite_true, ite_false, eq_self_iff_true, ↓reduceIte, Nat.reduceEqDiff, Nat.reduceLeDiff, Nat.reduceLT, Nat.reduceAdd, Nat.reduceMul, Nat.reduceSub, Int32.reduceLT, Int32.reduceLE, Nat.add_zero, Nat.zero_add, Nat.succ_ne_self, Nat.not_lt_zero, Nat.one_ne_zero, Nat.zero_ne_one, i01, i02, i03, i04, i10, i12, i13, i14, i20, i21, i23, i24, i30, i31, i32, i34, i40, i41, i42, i43, not_true_eq_false, not_false_eq_true]
set_option maxHeartbeats 4000000 in
theorem f116_4 {T : kT} {R : kM} : F_116 T (nI 4) R = kBd (F_114 T R) (fun _ R1 => kBd (F_114 T R1) (fun _ R3 => some ((), R3))) := by
  unfold F_116 F_116_18 F_116_40 F_116_45 F_116_57 F_116_67 F_116_72 F_116_85 F_116_98 F_116_109 F_116_123
  simp (disch := omega) only [pn_mulL, pn_addL, pn_addR, pn_ltL, pn_ltR, pn_leL, pn_leR, pn_eqL, pn_eqR, pn_subL, pn_z, pn_add, pn_mul, pn_nat, pn_inj, pn_lt, pn_le, pn_neg, kGx_nI, kGx_L, kGd_t, kBd_s, kOpt_s, kOpt_n, kLf_s, kAg_l, kAg_r, kAg_f, if_true, if_false, ite_true, ite_false, eq_self_iff_true, ↓reduceIte, Nat.reduceEqDiff, Nat.reduceLeDiff, Nat.reduceLT, Nat.reduceAdd, Nat.reduceMul, Nat.reduceSub, Int32.reduceLT, Int32.reduceLE, Nat.add_zero, Nat.zero_add, Nat.succ_ne_self, Nat.not_lt_zero, Nat.one_ne_zero, Nat.zero_ne_one, i01, i02, i03, i04, i10, i12, i13, i14, i20, i21, i23, i24, i30, i31, i32, i34, i40, i41, i42, i43, not_true_eq_false, not_false_eq_true]
set_option maxHeartbeats 4000000 in
theorem f116_7 {T : kT} {R : kM} : F_116 T (nI 7) R = kBd (F_114 T R) (fun _ R1 => kBd (F_113 T 0 1 R1) (fun _ R3 => some ((), R3))) := by
  unfold F_116 F_116_18 F_116_40 F_116_45 F_116_57 F_116_67 F_116_72 F_116_85 F_116_98 F_116_109 F_116_123
  simp (disch := omega) only [pn_mulL, pn_addL, pn_addR, pn_ltL, pn_ltR, pn_leL, pn_leR, pn_eqL, pn_eqR, pn_subL, pn_z, pn_add, pn_mul, pn_nat, pn_inj, pn_lt, pn_le, pn_neg, kGx_nI, kGx_L, kGd_t, kBd_s, kOpt_s, kOpt_n, kLf_s, kAg_l, kAg_r, kAg_f, if_true, if_false, ite_true, ite_false, eq_self_iff_true, ↓reduceIte, Nat.reduceEqDiff, Nat.reduceLeDiff, Nat.reduceLT, Nat.reduceAdd, Nat.reduceMul, Nat.reduceSub, Int32.reduceLT, Int32.reduceLE, Nat.add_zero, Nat.zero_add, Nat.succ_ne_self, Nat.not_lt_zero, Nat.one_ne_zero, Nat.zero_ne_one, i01, i02, i03, i04, i10, i12, i13, i14, i20, i21, i23, i24, i30, i31, i32, i34, i40, i41, i42, i43, not_true_eq_false, not_false_eq_true]
set_option maxHeartbeats 4000000 in
theorem f116_8 {T : kT} {R : kM} : F_116 T (nI 8) R = kBd (F_113 T 0 100 R) (fun _ R3 => some ((), R3)) := by
  unfold F_116 F_116_18 F_116_45 F_116_57 F_116_72 F_116_85 F_116_98 F_116_109 F_116_123
  simp (disch := omega) only [pn_mulL, pn_addL, pn_addR, pn_ltL, pn_ltR, pn_leL, pn_leR, pn_eqL, pn_eqR, pn_subL, pn_z, pn_add, pn_mul, pn_nat, pn_inj, pn_lt, pn_le, pn_neg, kGx_nI, kGx_L, kGd_t, kBd_s, kOpt_s, kOpt_n, kLf_s, kAg_l, kAg_r, kAg_f, if_true, if_false, ite_true, ite_false, eq_self_iff_true, ↓reduceIte, Nat.reduceEqDiff, Nat.reduceLeDiff, Nat.reduceLT, Nat.reduceAdd, Nat.reduceMul, Nat.reduceSub, Int32.reduceLT, Int32.reduceLE, Nat.add_zero, Nat.zero_add, Nat.succ_ne_self, Nat.not_lt_zero, Nat.one_ne_zero, Nat.zero_ne_one, i01, i02, i03, i04, i10, i12, i13, i14, i20, i21, i23, i24, i30, i31, i32, i34, i40, i41, i42, i43, not_true_eq_false, not_false_eq_true]
set_option maxHeartbeats 4000000 in
theorem f116_10 {T : kT} {R : kM} : F_116 T (nI 10) R = kBd (F_114 T R) (fun _ R1 => kBd (F_113 T 0 3 R1) (fun _ R2 => kBd (F_114 T R2) (fun _ R3 => some ((), R3)))) := by
  unfold F_116 F_116_18 F_116_40 F_116_45 F_116_57 F_116_67 F_116_72 F_116_85 F_116_98 F_116_109 F_116_123
  simp (disch := omega) only [pn_mulL, pn_addL, pn_addR, pn_ltL, pn_ltR, pn_leL, pn_leR, pn_eqL, pn_eqR, pn_subL, pn_z, pn_add, pn_mul, pn_nat, pn_inj, pn_lt, pn_le, pn_neg, kGx_nI, kGx_L, kGd_t, kBd_s, kOpt_s, kOpt_n, kLf_s, kAg_l, kAg_r, kAg_f, if_true, if_false, ite_true, ite_false, eq_self_iff_true, ↓reduceIte, Nat.reduceEqDiff, Nat.reduceLeDiff, Nat.reduceLT, Nat.reduceAdd, Nat.reduceMul, Nat.reduceSub, Int32.reduceLT, Int32.reduceLE, Nat.add_zero, Nat.zero_add, Nat.succ_ne_self, Nat.not_lt_zero, Nat.one_ne_zero, Nat.zero_ne_one, i01, i02, i03, i04, i10, i12, i13, i14, i20, i21, i23, i24, i30, i31, i32, i34, i40, i41, i42, i43, not_true_eq_false, not_false_eq_true]
set_option maxHeartbeats 4000000 in
theorem xs_c {m : Nat} {C C' R R' : kM} {p : Nat} (h1 : gp C' lRd = gp C lRd) (h2 : gp C' lWo = gp C lWo) (h : FS m C R ∨ RS m p C R) : (∃ p, RS m p C' R) ∨ FS m C' R := by
  rcases h with h | h
  · exact Or.inr (FS_c h1 h)
  · exact Or.inl ⟨p, RS_c h1 h2 h⟩
set_option maxHeartbeats 4000000 in
theorem num_n {T : kT} {m k t p : Nat} {C R : kM} (ht : t < T.2) (hk : gp C (lTm t) 0 = nI k) (h : k = 3 ∨ k = 5 ∨ k = 6 ∨ k = 9) (hs : RS m p C R) : Num T m k t p C R := by
  have e : F_40 T (some t) C = some ((), C) := by
    unfold F_40
    rw [kOpt_s, lv_tm ht, kGd_t, hk]
    rcases h with rfl | rfl | rfl | rfl <;> simp (disch := omega) only [pn_mulL, pn_addL, pn_addR, pn_ltL, pn_ltR, pn_leL, pn_leR, pn_eqL, pn_eqR, pn_subL, pn_z, pn_add, pn_mul, pn_nat, pn_inj, pn_lt, pn_le, pn_neg, kGx_nI, kGx_L, kGd_t, kBd_s, kOpt_s, kOpt_n, kLf_s, kAg_l, kAg_r, kAg_f, if_true, if_false, ite_true, ite_false, eq_self_iff_true, ↓reduceIte, Nat.reduceEqDiff, Nat.reduceLeDiff, Nat.reduceLT, Nat.reduceAdd, Nat.reduceMul, Nat.reduceSub, Int32.reduceLT, Int32.reduceLE, Nat.add_zero, Nat.zero_add, Nat.succ_ne_self, Nat.not_lt_zero, Nat.one_ne_zero, Nat.zero_ne_one, i01, i02, i03, i04, i10, i12, i13, i14, i20, i21, i23, i24, i30, i31, i32, i34, i40, i41, i42, i43, not_true_eq_false, not_false_eq_true]
  refine ⟨C, R, e, f116_n h, frN_refl t C, relR_refl R, fun j z => Or.inl z, Or.inr ⟨p, hs, ⟨fun _ _ _ _ => rfl, fun _ _ => rfl, fun _ _ _ => rfl, fun _ => rfl⟩, ?_⟩⟩
  rcases h with rfl | rfl | rfl | rfl <;> exact ⟨fun z => absurd z (by decide), fun z => absurd z (by decide), fun z => absurd z (by decide), fun _ => rfl, fun z => absurd z (by decide), fun z => absurd z (by decide), fun z => absurd z (by decide), fun z => absurd z (by decide)⟩
set_option maxHeartbeats 4000000 in
theorem num_0 {T : kT} {m t p : Nat} {C R : kM} (ht : t < T.2) (hT : T.1 ≤ 6) (hk : gp C (lTm t) 0 = nI 0) (hc : gp C lTs 1 = nI T.1) (ha : ∀ j, j < T.1 → gq C lAl j = some j) (hr : gp R lMo 1 = nI T.1) (hs : RS m p C R) : Num T m 0 t p C R := by
  obtain ⟨v, C1, x, R1, e1, e2, c1, c2, c3, c4⟩ := stIn (T := T) 0 (nI T.1 - 1) (Or.inl ⟨p, hs⟩)
  have g1 : gp C1 lTs 1 = nI T.1 := by rw [c1.1 lTs (by simp)]; exact hc
  have q1 : ∀ l, gq C1 l = gq C l := fun l => by unfold gq; rw [c1.2.2]
  have e83 : ∃ o, F_83 T v C1 = some (o, C1) ∧ (∀ j, j < T.1 → v = nI j → o = some j) ∧ (∀ j, o = some j → j < T.1) := by
    rcases in_cases v T.1 (by omega) with ⟨j, hj, rfl⟩ | ho
    · refine ⟨some j, ?_, fun j' hj' e => ?_, fun j' e => by cases e; exact hj⟩
      · unfold F_83
        rw [g1, if_neg (by rw [pn_neg (by omega)]; exact id), if_neg (by rw [pn_le (by omega) (by omega)]; omega), kGx_nI (by omega) (by omega), pn_nat (by omega), q1, ha j hj]
      · rw [pn_inj (by omega) (by omega)] at e; rw [e]
    · refine ⟨none, ?_, fun j hj e => ?_, fun j' e => absurd e (by simp)⟩
      · unfold F_83
        rw [g1]
        by_cases q : v < 0
        · rw [if_pos q]
        · rw [if_neg q, if_pos (ho.resolve_left q)]
      · rw [e] at ho
        rcases ho with z | z
        · rw [pn_neg (by omega)] at z; exact z.elim
        · rw [pn_le (by omega) (by omega)] at z; omega
  obtain ⟨o, e3, o1, o2⟩ := e83
  have ef : F_40 T (some t) C = some ((), sq C1 (lTm t) 6 o) := by
    unfold F_40
    rw [kOpt_s, lv_tm ht, kGd_t, hk, if_pos (show nI 0 = 0 from rfl), hc, e1, kBd_s, e3, kBd_s]
  have fr : frN t C (sq C1 (lTm t) 6 o) := by
    have f1 := frN_rel (t := t) c1
    refine ⟨f1.1, f1.2.1, f1.2.2.1, fun l x => by rw [gq_sq_ne x]; exact f1.2.2.2.1 l x, fun k x => by rw [gq_sq, va_up_ne _ _ x]; exact f1.2.2.2.2.1 k x, f1.2.2.2.2.2⟩
  refine ⟨_, R1, ef, by rw [f116_0, hr, e2, kBd_s], fr, c2, fun j z => Or.inr (by rw [gq_sq, va_up_self] at z; exact o2 j z), ?_⟩
  rcases c4 p hs with z | ⟨z1, z2, z3, z4, z5⟩
  · exact Or.inl (FS_c rfl z)
  · refine Or.inr ⟨p + 1, RS_c rfl rfl z1, ⟨fun _ _ _ _ => by show gp C1 (lTm t) 1 = _; rw [c1.1 (lTm t) (by simp)], fun _ _ => by show gp C1 (lTm t) 2 = _; rw [c1.1 (lTm t) (by simp)], fun _ _ _ => by show gp C1 (lTm t) 3 = _; rw [c1.1 (lTm t) (by simp)], fun z => absurd rfl z⟩, fun _ => ⟨rfl, ?_⟩, fun z => absurd z (by decide), fun z => absurd z (by decide), fun z => absurd z (by decide), fun z => absurd z (by decide), fun z => absurd z (by decide), fun z => absurd z (by decide), fun z => absurd z (by decide)⟩
    rcases in_cases (wW R p) T.1 (by omega) with ⟨j, hj, ej⟩ | ho
    · exact ⟨j, hj, ej, by rw [gq_sq, va_up_self]; exact o1 j hj (z2.trans ej)⟩
    · exfalso
      have : F_95 T (wW R p) 0 (nI T.1 - 1) R = some (0, R) := F95_out (by omega) ho
      unfold F_95 at this
      rw [if_neg z5.1, if_neg (not_lt_of z5.2)] at this
      exact absurd (congrArg Prod.fst (Option.some.inj this)) (show ¬ (1 : Int32) = 0 by decide)
set_option maxHeartbeats 4000000 in
theorem num_8 {T : kT} {m t p : Nat} {C R : kM} (ht : t < T.2) (hk : gp C (lTm t) 0 = nI 8) (hs : RS m p C R) : Num T m 8 t p C R := by
  obtain ⟨v, C1, x, R1, e1, e2, c1, c2, c3, c4⟩ := stIn (T := T) 0 100 (Or.inl ⟨p, hs⟩)
  have ef : F_40 T (some t) C = some ((), sp C1 (lTm t) 4 v) := by
    unfold F_40
    rw [kOpt_s, lv_tm ht, kGd_t, hk]
    simp (disch := omega) only [pn_mulL, pn_addL, pn_addR, pn_ltL, pn_ltR, pn_leL, pn_leR, pn_eqL, pn_eqR, pn_subL, pn_z, pn_add, pn_mul, pn_nat, pn_inj, pn_lt, pn_le, pn_neg, kGx_nI, kGx_L, kGd_t, kBd_s, kOpt_s, kOpt_n, kLf_s, kAg_l, kAg_r, kAg_f, if_true, if_false, ite_true, ite_false, eq_self_iff_true, ↓reduceIte, Nat.reduceEqDiff, Nat.reduceLeDiff, Nat.reduceLT, Nat.reduceAdd, Nat.reduceMul, Nat.reduceSub, Int32.reduceLT, Int32.reduceLE, Nat.add_zero, Nat.zero_add, Nat.succ_ne_self, Nat.not_lt_zero, Nat.one_ne_zero, Nat.zero_ne_one, i01, i02, i03, i04, i10, i12, i13, i14, i20, i21, i23, i24, i30, i31, i32, i34, i40, i41, i42, i43, not_true_eq_false, not_false_eq_true]
    rw [e1, kBd_s]
  have q1 : ∀ l, gq C1 l = gq C l := fun l => by unfold gq; rw [c1.2.2]
  refine ⟨_, R1, ef, by rw [f116_8, e2, kBd_s], frN_trans (frN_rel c1) (frN_tm (by omega) (by omega)), c2, fun j z => Or.inl (by rw [gq_sp, q1] at z; exact z), ?_⟩
  rcases c4 p hs with z | ⟨z1, z2, z3, z4, z5⟩
  · exact Or.inl (FS_c (by simp (disch := omega) only [gp_ne, gpa_ne, gp_sp, gp_sa, upd_eq, upd_ne, gq_sp, gq_sa]) z)
  · have g : ∀ k, k ≠ 4 → gp (sp C1 (lTm t) 4 v) (lTm t) k = gp C (lTm t) k := fun k hk => by simp (disch := omega) only [gp_ne, gpa_ne, gp_sp, gp_sa, upd_eq, upd_ne, gq_sp, gq_sa]; rw [c1.1 (lTm t) (by simp)]
    refine Or.inr ⟨p + 1, RS_c (by simp (disch := omega) only [gp_ne, gpa_ne, gp_sp, gp_sa, upd_eq, upd_ne, gq_sp, gq_sa]) (by simp (disch := omega) only [gp_ne, gpa_ne, gp_sp, gp_sa, upd_eq, upd_ne, gq_sp, gq_sa]) z1, ⟨fun _ _ _ _ => g 1 (by decide), fun _ _ => g 2 (by decide), fun _ _ _ => g 3 (by decide), fun _ => by rw [gq_sp, q1]⟩, fun z => absurd z (by decide), fun z => absurd z (by decide), fun z => absurd z (by decide), fun z => absurd z (by decide), fun z => absurd z (by decide), fun z => absurd z (by decide), fun _ => ⟨rfl, ?_, z5⟩, fun z => absurd z (by decide)⟩
    simp (disch := omega) only [gp_ne, gpa_ne, gp_sp, gp_sa, upd_eq, upd_ne, gq_sp, gq_sa]; exact z2
set_option maxHeartbeats 4000000 in
theorem num_4 {T : kT} {m t p : Nat} {C R : kM} (ht : t < T.2) (hk : gp C (lTm t) 0 = nI 4) (hs : RS m p C R) : Num T m 4 t p C R := by
  obtain ⟨v1, C1, x1, R1, e1, e2, c1, c2, c3, c4⟩ := stAny (T := T) (Or.inl ⟨p, hs⟩)
  have xs1 : (∃ p, RS m p (sp C1 (lTm t) 1 v1) R1) ∨ FS m (sp C1 (lTm t) 1 v1) R1 := by
    rcases c4 p hs with z | z
    · exact Or.inr (FS_c (by simp (disch := omega) only [gp_ne, gpa_ne, gp_sp, gp_sa, upd_eq, upd_ne, gq_sp, gq_sa]) z)
    · exact Or.inl ⟨_, RS_c (by simp (disch := omega) only [gp_ne, gpa_ne, gp_sp, gp_sa, upd_eq, upd_ne, gq_sp, gq_sa]) (by simp (disch := omega) only [gp_ne, gpa_ne, gp_sp, gp_sa, upd_eq, upd_ne, gq_sp, gq_sa]) z.1⟩
  obtain ⟨v2, C2, x2, R2, e3, e4, d1, d2, d3, d4⟩ := stAny (T := T) xs1
  have ef : F_40 T (some t) C = some ((), sp C2 (lTm t) 2 v2) := by
    unfold F_40
    rw [kOpt_s, lv_tm ht, kGd_t, hk]
    simp (disch := omega) only [pn_mulL, pn_addL, pn_addR, pn_ltL, pn_ltR, pn_leL, pn_leR, pn_eqL, pn_eqR, pn_subL, pn_z, pn_add, pn_mul, pn_nat, pn_inj, pn_lt, pn_le, pn_neg, kGx_nI, kGx_L, kGd_t, kBd_s, kOpt_s, kOpt_n, kLf_s, kAg_l, kAg_r, kAg_f, if_true, if_false, ite_true, ite_false, eq_self_iff_true, ↓reduceIte, Nat.reduceEqDiff, Nat.reduceLeDiff, Nat.reduceLT, Nat.reduceAdd, Nat.reduceMul, Nat.reduceSub, Int32.reduceLT, Int32.reduceLE, Nat.add_zero, Nat.zero_add, Nat.succ_ne_self, Nat.not_lt_zero, Nat.one_ne_zero, Nat.zero_ne_one, i01, i02, i03, i04, i10, i12, i13, i14, i20, i21, i23, i24, i30, i31, i32, i34, i40, i41, i42, i43, not_true_eq_false, not_false_eq_true]
    rw [e1, kBd_s, e3, kBd_s]
  have q1 : ∀ l, gq C2 l = gq C l := fun l => by unfold gq; rw [d1.2.2]; show (C1.2).1 l = _; rw [c1.2.2]
  refine ⟨_, R2, ef, by rw [f116_4, e2, kBd_s, e4, kBd_s], frN_trans (frN_rel c1) (frN_trans (frN_tm (by omega) (by omega)) (frN_trans (frN_rel d1) (frN_tm (by omega) (by omega)))), relR_trans c2 d2, fun j z => Or.inl (by rw [gq_sp, q1] at z; exact z), ?_⟩
  have g : ∀ k, k ≠ 2 → k ≠ 1 → gp (sp C2 (lTm t) 2 v2) (lTm t) k = gp C (lTm t) k := fun k a b => by simp (disch := omega) only [gp_ne, gpa_ne, gp_sp, gp_sa, upd_eq, upd_ne, gq_sp, gq_sa]; rw [d1.1 (lTm t) (by simp)]; simp (disch := omega) only [gp_ne, gpa_ne, gp_sp, gp_sa, upd_eq, upd_ne, gq_sp, gq_sa]; rw [c1.1 (lTm t) (by simp)]
  rcases c4 p hs with z | ⟨z1, z2, -, z3⟩
  · exact Or.inl (FS_c (by simp (disch := omega) only [gp_ne, gpa_ne, gp_sp, gp_sa, upd_eq, upd_ne, gq_sp, gq_sa]) (d3 (FS_c (by simp (disch := omega) only [gp_ne, gpa_ne, gp_sp, gp_sa, upd_eq, upd_ne, gq_sp, gq_sa]) z)))
  · rcases d4 (p + 1) (RS_c (by simp (disch := omega) only [gp_ne, gpa_ne, gp_sp, gp_sa, upd_eq, upd_ne, gq_sp, gq_sa]) (by simp (disch := omega) only [gp_ne, gpa_ne, gp_sp, gp_sa, upd_eq, upd_ne, gq_sp, gq_sa]) z1) with y | ⟨y1, y2, -, y3⟩
    · exact Or.inl (FS_c (by simp (disch := omega) only [gp_ne, gpa_ne, gp_sp, gp_sa, upd_eq, upd_ne, gq_sp, gq_sa]) y)
    · refine Or.inr ⟨p + 2, RS_c (by simp (disch := omega) only [gp_ne, gpa_ne, gp_sp, gp_sa, upd_eq, upd_ne, gq_sp, gq_sa]) (by simp (disch := omega) only [gp_ne, gpa_ne, gp_sp, gp_sa, upd_eq, upd_ne, gq_sp, gq_sa]) y1, ⟨fun _ z => absurd rfl z, fun z => absurd rfl z, fun _ _ _ => g 3 (by decide) (by decide), fun _ => by rw [gq_sp, q1]⟩, fun z => absurd z (by decide), fun z => absurd z (by decide), fun z => absurd z (by decide), fun z => absurd z (by decide), fun _ => ⟨rfl, ?_, ?_⟩, fun z => absurd z (by decide), fun z => absurd z (by decide), fun z => absurd z (by decide)⟩
      · simp (disch := omega) only [gp_ne, gpa_ne, gp_sp, gp_sa, upd_eq, upd_ne, gq_sp, gq_sa]; rw [d1.1 (lTm t) (by simp)]; simp (disch := omega) only [gp_ne, gpa_ne, gp_sp, gp_sa, upd_eq, upd_ne, gq_sp, gq_sa]; exact z2
      · simp (disch := omega) only [gp_ne, gpa_ne, gp_sp, gp_sa, upd_eq, upd_ne, gq_sp, gq_sa]; rw [y2, wW_rel c2]
set_option maxHeartbeats 4000000 in
theorem num_7 {T : kT} {m t p : Nat} {C R : kM} (ht : t < T.2) (hk : gp C (lTm t) 0 = nI 7) (hs : RS m p C R) : Num T m 7 t p C R := by
  obtain ⟨v1, C1, x1, R1, e1, e2, c1, c2, c3, c4⟩ := stAny (T := T) (Or.inl ⟨p, hs⟩)
  have xs1 : (∃ p, RS m p (sp C1 (lTm t) 1 v1) R1) ∨ FS m (sp C1 (lTm t) 1 v1) R1 := by
    rcases c4 p hs with z | z
    · exact Or.inr (FS_c (by simp (disch := omega) only [gp_ne, gpa_ne, gp_sp, gp_sa, upd_eq, upd_ne, gq_sp, gq_sa]) z)
    · exact Or.inl ⟨_, RS_c (by simp (disch := omega) only [gp_ne, gpa_ne, gp_sp, gp_sa, upd_eq, upd_ne, gq_sp, gq_sa]) (by simp (disch := omega) only [gp_ne, gpa_ne, gp_sp, gp_sa, upd_eq, upd_ne, gq_sp, gq_sa]) z.1⟩
  obtain ⟨v2, C2, x2, R2, e3, e4, d1, d2, d3, d4⟩ := stIn (T := T) 0 1 xs1
  have ef : F_40 T (some t) C = some ((), sp C2 (lTm t) 3 v2) := by
    unfold F_40
    rw [kOpt_s, lv_tm ht, kGd_t, hk]
    simp (disch := omega) only [pn_mulL, pn_addL, pn_addR, pn_ltL, pn_ltR, pn_leL, pn_leR, pn_eqL, pn_eqR, pn_subL, pn_z, pn_add, pn_mul, pn_nat, pn_inj, pn_lt, pn_le, pn_neg, kGx_nI, kGx_L, kGd_t, kBd_s, kOpt_s, kOpt_n, kLf_s, kAg_l, kAg_r, kAg_f, if_true, if_false, ite_true, ite_false, eq_self_iff_true, ↓reduceIte, Nat.reduceEqDiff, Nat.reduceLeDiff, Nat.reduceLT, Nat.reduceAdd, Nat.reduceMul, Nat.reduceSub, Int32.reduceLT, Int32.reduceLE, Nat.add_zero, Nat.zero_add, Nat.succ_ne_self, Nat.not_lt_zero, Nat.one_ne_zero, Nat.zero_ne_one, i01, i02, i03, i04, i10, i12, i13, i14, i20, i21, i23, i24, i30, i31, i32, i34, i40, i41, i42, i43, not_true_eq_false, not_false_eq_true]
    rw [e1, kBd_s, e3, kBd_s]
  have q1 : ∀ l, gq C2 l = gq C l := fun l => by unfold gq; rw [d1.2.2]; show (C1.2).1 l = _; rw [c1.2.2]
  refine ⟨_, R2, ef, by rw [f116_7, e2, kBd_s, e4, kBd_s], frN_trans (frN_rel c1) (frN_trans (frN_tm (by omega) (by omega)) (frN_trans (frN_rel d1) (frN_tm (by omega) (by omega)))), relR_trans c2 d2, fun j z => Or.inl (by rw [gq_sp, q1] at z; exact z), ?_⟩
  have g : ∀ k, k ≠ 3 → k ≠ 1 → gp (sp C2 (lTm t) 3 v2) (lTm t) k = gp C (lTm t) k := fun k a b => by simp (disch := omega) only [gp_ne, gpa_ne, gp_sp, gp_sa, upd_eq, upd_ne, gq_sp, gq_sa]; rw [d1.1 (lTm t) (by simp)]; simp (disch := omega) only [gp_ne, gpa_ne, gp_sp, gp_sa, upd_eq, upd_ne, gq_sp, gq_sa]; rw [c1.1 (lTm t) (by simp)]
  rcases c4 p hs with z | ⟨z1, z2, -, z3⟩
  · exact Or.inl (FS_c (by simp (disch := omega) only [gp_ne, gpa_ne, gp_sp, gp_sa, upd_eq, upd_ne, gq_sp, gq_sa]) (d3 (FS_c (by simp (disch := omega) only [gp_ne, gpa_ne, gp_sp, gp_sa, upd_eq, upd_ne, gq_sp, gq_sa]) z)))
  · rcases d4 (p + 1) (RS_c (by simp (disch := omega) only [gp_ne, gpa_ne, gp_sp, gp_sa, upd_eq, upd_ne, gq_sp, gq_sa]) (by simp (disch := omega) only [gp_ne, gpa_ne, gp_sp, gp_sa, upd_eq, upd_ne, gq_sp, gq_sa]) z1) with y | ⟨y1, y2, -, y3, y4⟩
    · exact Or.inl (FS_c (by simp (disch := omega) only [gp_ne, gpa_ne, gp_sp, gp_sa, upd_eq, upd_ne, gq_sp, gq_sa]) y)
    · refine Or.inr ⟨p + 2, RS_c (by simp (disch := omega) only [gp_ne, gpa_ne, gp_sp, gp_sa, upd_eq, upd_ne, gq_sp, gq_sa]) (by simp (disch := omega) only [gp_ne, gpa_ne, gp_sp, gp_sa, upd_eq, upd_ne, gq_sp, gq_sa]) y1, ⟨fun _ _ z => absurd rfl z, fun _ _ => g 2 (by decide) (by decide), fun _ z => absurd rfl z, fun _ => by rw [gq_sp, q1]⟩, fun z => absurd z (by decide), fun z => absurd z (by decide), fun z => absurd z (by decide), fun z => absurd z (by decide), fun z => absurd z (by decide), fun _ => ⟨rfl, ?_, ?_, ?_⟩, fun z => absurd z (by decide), fun z => absurd z (by decide)⟩
      · simp (disch := omega) only [gp_ne, gpa_ne, gp_sp, gp_sa, upd_eq, upd_ne, gq_sp, gq_sa]; rw [d1.1 (lTm t) (by simp)]; simp (disch := omega) only [gp_ne, gpa_ne, gp_sp, gp_sa, upd_eq, upd_ne, gq_sp, gq_sa]; exact z2
      · simp (disch := omega) only [gp_ne, gpa_ne, gp_sp, gp_sa, upd_eq, upd_ne, gq_sp, gq_sa]; rw [y2, wW_rel c2]
      · rw [← wW_rel c2]; exact y4
