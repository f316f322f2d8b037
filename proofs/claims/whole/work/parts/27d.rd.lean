set_option maxHeartbeats 4000000 in
theorem num_1 {T : kT} {m t p : Nat} {C R : kM} (ht : t < T.2) (hk : gp C (lTm t) 0 = nI 1) (hs : RS m p C R) : Num T m 1 t p C R := by
  obtain ⟨v1, C1, x1, R1, e1, e2, c1, c2, c3, c4⟩ := stAny (T := T) (Or.inl ⟨p, hs⟩)
  have xs1 : (∃ p, RS m p (sp C1 (lTm t) 1 v1) R1) ∨ FS m (sp C1 (lTm t) 1 v1) R1 := by
    rcases c4 p hs with z | z
    · exact Or.inr (FS_c (by simp (disch := omega) only [gp_ne, gpa_ne, gp_sp, gp_sa, upd_eq, upd_ne, gq_sp, gq_sa]) z)
    · exact Or.inl ⟨_, RS_c (by simp (disch := omega) only [gp_ne, gpa_ne, gp_sp, gp_sa, upd_eq, upd_ne, gq_sp, gq_sa]) (by simp (disch := omega) only [gp_ne, gpa_ne, gp_sp, gp_sa, upd_eq, upd_ne, gq_sp, gq_sa]) z.1⟩
  obtain ⟨v2, C2, x2, R2, e3, e4, d1, d2, d3, d4⟩ := stIn (T := T) 0 5 xs1
  have xs2 : (∃ p, RS m p (sp C2 (lTm t) 3 v2) R2) ∨ FS m (sp C2 (lTm t) 3 v2) R2 := by
    rcases xs1 with ⟨p, z⟩ | z
    · rcases d4 p z with y | y
      · exact Or.inr (FS_c (by simp (disch := omega) only [gp_ne, gpa_ne, gp_sp, gp_sa, upd_eq, upd_ne, gq_sp, gq_sa]) y)
      · exact Or.inl ⟨_, RS_c (by simp (disch := omega) only [gp_ne, gpa_ne, gp_sp, gp_sa, upd_eq, upd_ne, gq_sp, gq_sa]) (by simp (disch := omega) only [gp_ne, gpa_ne, gp_sp, gp_sa, upd_eq, upd_ne, gq_sp, gq_sa]) y.1⟩
    · exact Or.inr (FS_c (by simp (disch := omega) only [gp_ne, gpa_ne, gp_sp, gp_sa, upd_eq, upd_ne, gq_sp, gq_sa]) (d3 z))
  obtain ⟨v3, C3, x3, R3, e5, e6, b1, b2, b3, b4⟩ := stAny (T := T) xs2
  have ef : F_40 T (some t) C = some ((), sp C3 (lTm t) 4 v3) := by
    unfold F_40
    rw [kOpt_s, lv_tm ht, kGd_t, hk]
    simp (disch := omega) only [pn_mulL, pn_addL, pn_addR, pn_ltL, pn_ltR, pn_leL, pn_leR, pn_eqL, pn_eqR, pn_subL, pn_z, pn_add, pn_mul, pn_nat, pn_inj, pn_lt, pn_le, pn_neg, kGx_nI, kGx_L, kGd_t, kBd_s, kOpt_s, kOpt_n, kLf_s, kAg_l, kAg_r, kAg_f, if_true, if_false, ite_true, ite_false, eq_self_iff_true, ↓reduceIte, Nat.reduceEqDiff, Nat.reduceLeDiff, Nat.reduceLT, Nat.reduceAdd, Nat.reduceMul, Nat.reduceSub, Int32.reduceLT, Int32.reduceLE, Nat.add_zero, Nat.zero_add, Nat.succ_ne_self, Nat.not_lt_zero, Nat.one_ne_zero, Nat.zero_ne_one, i01, i02, i03, i04, i10, i12, i13, i14, i20, i21, i23, i24, i30, i31, i32, i34, i40, i41, i42, i43, not_true_eq_false, not_false_eq_true]
    rw [e1, kBd_s, e3, kBd_s, e5, kBd_s]
  have q1 : ∀ l, gq C3 l = gq C l := fun l => by unfold gq; rw [b1.2.2]; show (C2.2).1 l = _; rw [d1.2.2]; show (C1.2).1 l = _; rw [c1.2.2]
  refine ⟨_, R3, ef, by rw [f116_1, e2, kBd_s, e4, kBd_s, e6, kBd_s], frN_trans (frN_rel c1) (frN_trans (frN_tm (by omega) (by omega)) (frN_trans (frN_rel d1) (frN_trans (frN_tm (by omega) (by omega)) (frN_trans (frN_rel b1) (frN_tm (by omega) (by omega)))))), relR_trans c2 (relR_trans d2 b2), fun j z => Or.inl (by rw [gq_sp, q1] at z; exact z), ?_⟩
  have g3 : gp C3 (lTm t) = gp (sp C2 (lTm t) 3 v2) (lTm t) := b1.1 (lTm t) (by simp)
  have g2 : gp C2 (lTm t) = gp (sp C1 (lTm t) 1 v1) (lTm t) := d1.1 (lTm t) (by simp)
  have g1 : gp C1 (lTm t) = gp C (lTm t) := c1.1 (lTm t) (by simp)
  rcases c4 p hs with z | ⟨z1, z2, -, z3⟩
  · exact Or.inl (FS_c (by simp (disch := omega) only [gp_ne, gpa_ne, gp_sp, gp_sa, upd_eq, upd_ne, gq_sp, gq_sa]) (b3 (FS_c (by simp (disch := omega) only [gp_ne, gpa_ne, gp_sp, gp_sa, upd_eq, upd_ne, gq_sp, gq_sa]) (d3 (FS_c (by simp (disch := omega) only [gp_ne, gpa_ne, gp_sp, gp_sa, upd_eq, upd_ne, gq_sp, gq_sa]) z)))))
  · rcases d4 (p + 1) (RS_c (by simp (disch := omega) only [gp_ne, gpa_ne, gp_sp, gp_sa, upd_eq, upd_ne, gq_sp, gq_sa]) (by simp (disch := omega) only [gp_ne, gpa_ne, gp_sp, gp_sa, upd_eq, upd_ne, gq_sp, gq_sa]) z1) with y | ⟨y1, y2, -, y3, y4⟩
    · exact Or.inl (FS_c (by simp (disch := omega) only [gp_ne, gpa_ne, gp_sp, gp_sa, upd_eq, upd_ne, gq_sp, gq_sa]) (b3 (FS_c (by simp (disch := omega) only [gp_ne, gpa_ne, gp_sp, gp_sa, upd_eq, upd_ne, gq_sp, gq_sa]) y)))
    · rcases b4 (p + 2) (RS_c (by simp (disch := omega) only [gp_ne, gpa_ne, gp_sp, gp_sa, upd_eq, upd_ne, gq_sp, gq_sa]) (by simp (disch := omega) only [gp_ne, gpa_ne, gp_sp, gp_sa, upd_eq, upd_ne, gq_sp, gq_sa]) y1) with u | ⟨u1, u2, -, u3⟩
      · exact Or.inl (FS_c (by simp (disch := omega) only [gp_ne, gpa_ne, gp_sp, gp_sa, upd_eq, upd_ne, gq_sp, gq_sa]) u)
      · refine Or.inr ⟨p + 3, RS_c (by simp (disch := omega) only [gp_ne, gpa_ne, gp_sp, gp_sa, upd_eq, upd_ne, gq_sp, gq_sa]) (by simp (disch := omega) only [gp_ne, gpa_ne, gp_sp, gp_sa, upd_eq, upd_ne, gq_sp, gq_sa]) u1, ⟨fun z => absurd rfl z, fun _ _ => ?_, fun z => absurd rfl z, fun _ => by rw [gq_sp, q1]⟩, fun z => absurd z (by decide), fun _ => ⟨rfl, ?_, ?_, ?_, ?_⟩, fun z => absurd z (by decide), fun z => absurd z (by decide), fun z => absurd z (by decide), fun z => absurd z (by decide), fun z => absurd z (by decide), fun z => absurd z (by decide)⟩
        · simp (disch := omega) only [gp_ne, gpa_ne, gp_sp, gp_sa, upd_eq, upd_ne, gq_sp, gq_sa, g3, g2, g1]
        · simp (disch := omega) only [gp_ne, gpa_ne, gp_sp, gp_sa, upd_eq, upd_ne, gq_sp, gq_sa, g3, g2]; exact z2
        · simp (disch := omega) only [gp_ne, gpa_ne, gp_sp, gp_sa, upd_eq, upd_ne, gq_sp, gq_sa, g3]; rw [y2, wW_rel c2]
        · rw [← wW_rel c2]; exact y4
        · simp (disch := omega) only [gp_ne, gpa_ne, gp_sp, gp_sa, upd_eq, upd_ne, gq_sp, gq_sa]; rw [u2, wW_rel d2, wW_rel c2]
set_option maxHeartbeats 4000000 in
theorem num_10 {T : kT} {m t p : Nat} {C R : kM} (ht : t < T.2) (hk : gp C (lTm t) 0 = nI 10) (hs : RS m p C R) : Num T m 10 t p C R := by
  obtain ⟨v1, C1, x1, R1, e1, e2, c1, c2, c3, c4⟩ := stAny (T := T) (Or.inl ⟨p, hs⟩)
  have xs1 : (∃ p, RS m p (sp C1 (lTm t) 1 v1) R1) ∨ FS m (sp C1 (lTm t) 1 v1) R1 := by
    rcases c4 p hs with z | z
    · exact Or.inr (FS_c (by simp (disch := omega) only [gp_ne, gpa_ne, gp_sp, gp_sa, upd_eq, upd_ne, gq_sp, gq_sa]) z)
    · exact Or.inl ⟨_, RS_c (by simp (disch := omega) only [gp_ne, gpa_ne, gp_sp, gp_sa, upd_eq, upd_ne, gq_sp, gq_sa]) (by simp (disch := omega) only [gp_ne, gpa_ne, gp_sp, gp_sa, upd_eq, upd_ne, gq_sp, gq_sa]) z.1⟩
  obtain ⟨v2, C2, x2, R2, e3, e4, d1, d2, d3, d4⟩ := stIn (T := T) 0 3 xs1
  have xs2 : (∃ p, RS m p (sp C2 (lTm t) 3 v2) R2) ∨ FS m (sp C2 (lTm t) 3 v2) R2 := by
    rcases xs1 with ⟨p, z⟩ | z
    · rcases d4 p z with y | y
      · exact Or.inr (FS_c (by simp (disch := omega) only [gp_ne, gpa_ne, gp_sp, gp_sa, upd_eq, upd_ne, gq_sp, gq_sa]) y)
      · exact Or.inl ⟨_, RS_c (by simp (disch := omega) only [gp_ne, gpa_ne, gp_sp, gp_sa, upd_eq, upd_ne, gq_sp, gq_sa]) (by simp (disch := omega) only [gp_ne, gpa_ne, gp_sp, gp_sa, upd_eq, upd_ne, gq_sp, gq_sa]) y.1⟩
    · exact Or.inr (FS_c (by simp (disch := omega) only [gp_ne, gpa_ne, gp_sp, gp_sa, upd_eq, upd_ne, gq_sp, gq_sa]) (d3 z))
  obtain ⟨v3, C3, x3, R3, e5, e6, b1, b2, b3, b4⟩ := stAny (T := T) xs2
  have ef : F_40 T (some t) C = some ((), sp C3 (lTm t) 2 v3) := by
    unfold F_40
    rw [kOpt_s, lv_tm ht, kGd_t, hk]
    simp (disch := omega) only [pn_mulL, pn_addL, pn_addR, pn_ltL, pn_ltR, pn_leL, pn_leR, pn_eqL, pn_eqR, pn_subL, pn_z, pn_add, pn_mul, pn_nat, pn_inj, pn_lt, pn_le, pn_neg, kGx_nI, kGx_L, kGd_t, kBd_s, kOpt_s, kOpt_n, kLf_s, kAg_l, kAg_r, kAg_f, if_true, if_false, ite_true, ite_false, eq_self_iff_true, ↓reduceIte, Nat.reduceEqDiff, Nat.reduceLeDiff, Nat.reduceLT, Nat.reduceAdd, Nat.reduceMul, Nat.reduceSub, Int32.reduceLT, Int32.reduceLE, Nat.add_zero, Nat.zero_add, Nat.succ_ne_self, Nat.not_lt_zero, Nat.one_ne_zero, Nat.zero_ne_one, i01, i02, i03, i04, i10, i12, i13, i14, i20, i21, i23, i24, i30, i31, i32, i34, i40, i41, i42, i43, not_true_eq_false, not_false_eq_true]
    rw [e1, kBd_s, e3, kBd_s, e5, kBd_s]
  have q1 : ∀ l, gq C3 l = gq C l := fun l => by unfold gq; rw [b1.2.2]; show (C2.2).1 l = _; rw [d1.2.2]; show (C1.2).1 l = _; rw [c1.2.2]
  refine ⟨_, R3, ef, by rw [f116_10, e2, kBd_s, e4, kBd_s, e6, kBd_s], frN_trans (frN_rel c1) (frN_trans (frN_tm (by omega) (by omega)) (frN_trans (frN_rel d1) (frN_trans (frN_tm (by omega) (by omega)) (frN_trans (frN_rel b1) (frN_tm (by omega) (by omega)))))), relR_trans c2 (relR_trans d2 b2), fun j z => Or.inl (by rw [gq_sp, q1] at z; exact z), ?_⟩
  have g3 : gp C3 (lTm t) = gp (sp C2 (lTm t) 3 v2) (lTm t) := b1.1 (lTm t) (by simp)
  have g2 : gp C2 (lTm t) = gp (sp C1 (lTm t) 1 v1) (lTm t) := d1.1 (lTm t) (by simp)
  have g1 : gp C1 (lTm t) = gp C (lTm t) := c1.1 (lTm t) (by simp)
  rcases c4 p hs with z | ⟨z1, z2, -, z3⟩
  · exact Or.inl (FS_c (by simp (disch := omega) only [gp_ne, gpa_ne, gp_sp, gp_sa, upd_eq, upd_ne, gq_sp, gq_sa]) (b3 (FS_c (by simp (disch := omega) only [gp_ne, gpa_ne, gp_sp, gp_sa, upd_eq, upd_ne, gq_sp, gq_sa]) (d3 (FS_c (by simp (disch := omega) only [gp_ne, gpa_ne, gp_sp, gp_sa, upd_eq, upd_ne, gq_sp, gq_sa]) z)))))
  · rcases d4 (p + 1) (RS_c (by simp (disch := omega) only [gp_ne, gpa_ne, gp_sp, gp_sa, upd_eq, upd_ne, gq_sp, gq_sa]) (by simp (disch := omega) only [gp_ne, gpa_ne, gp_sp, gp_sa, upd_eq, upd_ne, gq_sp, gq_sa]) z1) with y | ⟨y1, y2, -, y3, y4⟩
    · exact Or.inl (FS_c (by simp (disch := omega) only [gp_ne, gpa_ne, gp_sp, gp_sa, upd_eq, upd_ne, gq_sp, gq_sa]) (b3 (FS_c (by simp (disch := omega) only [gp_ne, gpa_ne, gp_sp, gp_sa, upd_eq, upd_ne, gq_sp, gq_sa]) y)))
    · rcases b4 (p + 2) (RS_c (by simp (disch := omega) only [gp_ne, gpa_ne, gp_sp, gp_sa, upd_eq, upd_ne, gq_sp, gq_sa]) (by simp (disch := omega) only [gp_ne, gpa_ne, gp_sp, gp_sa, upd_eq, upd_ne, gq_sp, gq_sa]) y1) with u | ⟨u1, u2, -, u3⟩
      · exact Or.inl (FS_c (by simp (disch := omega) only [gp_ne, gpa_ne, gp_sp, gp_sa, upd_eq, upd_ne, gq_sp, gq_sa]) u)
      · refine Or.inr ⟨p + 3, RS_c (by simp (disch := omega) only [gp_ne, gpa_ne, gp_sp, gp_sa, upd_eq, upd_ne, gq_sp, gq_sa]) (by simp (disch := omega) only [gp_ne, gpa_ne, gp_sp, gp_sa, upd_eq, upd_ne, gq_sp, gq_sa]) u1, ⟨fun _ _ _ z => absurd rfl z, fun _ z => absurd rfl z, fun _ _ z => absurd rfl z, fun _ => by rw [gq_sp, q1]⟩, fun z => absurd z (by decide), fun z => absurd z (by decide), fun z => absurd z (by decide), fun z => absurd z (by decide), fun z => absurd z (by decide), fun z => absurd z (by decide), fun z => absurd z (by decide), fun _ => ⟨rfl, ?_, ?_, ?_, ?_⟩⟩
        · simp (disch := omega) only [gp_ne, gpa_ne, gp_sp, gp_sa, upd_eq, upd_ne, gq_sp, gq_sa, g3, g2]; exact z2
        · simp (disch := omega) only [gp_ne, gpa_ne, gp_sp, gp_sa, upd_eq, upd_ne, gq_sp, gq_sa, g3]; rw [y2, wW_rel c2]
        · rw [← wW_rel c2]; exact y4
        · simp (disch := omega) only [gp_ne, gpa_ne, gp_sp, gp_sa, upd_eq, upd_ne, gq_sp, gq_sa]; rw [u2, wW_rel d2, wW_rel c2]
/-! PROJECT's columns -/
set_option maxHeartbeats 4000000 in
theorem pkw_fs {T : kT} {m t : Nat} {R : kM} (ht : t < T.2) : ∀ n i C, i + n = 8 → FS m C R → ∃ C', F_40_128 T t (nI i) C = some ((), C') ∧ frN t C C' ∧ FS m C' R ∧ gp C' (lTm t) = gp C (lTm t) ∧ gq C' = gq C := by
  intro n
  induction n with
  | zero =>
    intro i C e h
    have : F_40_128 T t (nI i) C = some ((), C) := by
      rw [F_40_128_eq]
      unfold B_40_128
      rw [lv_tm ht, kGd_t]
      by_cases q : gp C (lTm t) 4 ≤ nI i
      · rw [if_pos q, kAg_r]
      · rw [if_neg q, if_pos (by rw [pn_leR _ (by omega) (by omega)]; omega), kAg_r]
    exact ⟨C, this, frN_refl t C, h, rfl, rfl⟩
  | succ n ih =>
    intro i C e h
    by_cases q : gp C (lTm t) 4 ≤ nI i
    · refine ⟨C, ?_, frN_refl t C, h, rfl, rfl⟩
      rw [F_40_128_eq]
      unfold B_40_128
      rw [lv_tm ht, kGd_t, if_pos q, kAg_r]
    · obtain ⟨C', e1, f1, s1, g1, g2⟩ := ih (i + 1) (sp C (lPk t) i 0) (by omega) (FS_c (by simp (disch := omega) only [gp_ne, gpa_ne, gp_sp, gp_sa, upd_eq, upd_ne, gq_sp, gq_sa]) h)
      refine ⟨C', ?_, frN_trans frN_pk f1, s1, by rw [g1]; simp (disch := omega) only [gp_ne, gpa_ne, gp_sp, gp_sa, upd_eq, upd_ne, gq_sp, gq_sa], by rw [g2]; rfl⟩
      rw [F_40_128_eq]
      unfold B_40_128
      rw [lv_tm ht, kGd_t, if_neg q, if_neg (by rw [pn_leR _ (by omega) (by omega)]; omega), nw_fs h, kBd_s, kGx_nI (by omega) (by omega), pn_nat (by omega), kAg_l, pn_addL]
      exact e1
set_option maxHeartbeats 4000000 in
theorem rk_fs {T : kT} {m i : Nat} {C R : kM} {x : Int32} (h : FS m C R) : F_116_139 T x (nI i) R = some ((), R) := by
  obtain ⟨h1, h2, h3, q, hq, h4, h5⟩ := h
  rw [F_116_139_eq]
  unfold B_116_139
  by_cases z : x ≤ nI i
  · rw [if_pos z, kAg_r]
  · rw [if_neg z, if_pos (by rw [h5]; exact pn_ge0 (by omega)), kAg_r]
set_option maxHeartbeats 4000000 in
theorem pkw_ok {T : kT} {m t w p0 : Nat} {R0 : kM} (ht : t < T.2) (hw : w ≤ 8) : ∀ n i p C R, i + n = w → p = p0 + i → RS m p C R → gp C (lTm t) 4 = nI w → relR R0 R → (∀ a, a < i → gp C (lPk t) a = wW R0 (p0 + a)) → ∃ C' R', F_40_128 T t (nI i) C = some ((), C') ∧ F_116_139 T (nI w) (nI i) R = some ((), R') ∧ frN t C C' ∧ relR R R' ∧ gp C' (lTm t) = gp C (lTm t) ∧ gq C' = gq C ∧ (FS m C' R' ∨ (RS m (p0 + w) C' R' ∧ ∀ a, a < w → gp C' (lPk t) a = wW R0 (p0 + a))) := by
  intro n
  induction n with
  | zero =>
    intro i p C R e ep h h4 hr hp
    obtain rfl : i = w := by omega
    refine ⟨C, R, ?_, ?_, frN_refl t C, relR_refl R, rfl, rfl, Or.inr ⟨by rw [← ep]; exact h, hp⟩⟩
    · rw [F_40_128_eq]
      unfold B_40_128
      rw [lv_tm ht, kGd_t, h4, if_pos (by rw [pn_le (by omega) (by omega)]; omega), kAg_r]
    · rw [F_116_139_eq]
      unfold B_116_139
      rw [if_pos (by rw [pn_le (by omega) (by omega)]; omega), kAg_r]
  | succ n ih =>
    intro i p C R e ep h h4 hr hp
    obtain ⟨v, C1, x, R1, e1, e2, c1, c2, c3, c4⟩ := stAny (T := T) (Or.inl ⟨p, h⟩)
    have eC : ∀ Z, F_40_128 T t (nI (i + 1)) (sp C1 (lPk t) i v) = Z → F_40_128 T t (nI i) C = Z := by
      intro Z hZ
      rw [F_40_128_eq]
      unfold B_40_128
      rw [lv_tm ht, kGd_t, h4, if_neg (by rw [pn_le (by omega) (by omega)]; omega), if_neg (by rw [pn_leR _ (by omega) (by omega)]; omega), e1, kBd_s, kGx_nI (by omega) (by omega), pn_nat (by omega), kAg_l, pn_addL]
      exact hZ
    have eR : ∀ Z, F_116_139 T (nI w) (nI (i + 1)) R1 = Z → F_116_139 T (nI w) (nI i) R = Z := by
      intro Z hZ
      rw [F_116_139_eq]
      unfold B_116_139
      rw [if_neg (by rw [pn_le (by omega) (by omega)]; omega), h.2.2.2.2.2.2.2.1, if_neg (by decide), e2, kBd_s, kAg_l, pn_addL]
      exact hZ
    have f0 : frN t C (sp C1 (lPk t) i v) := frN_trans (frN_rel c1) frN_pk
    have gt : gp (sp C1 (lPk t) i v) (lTm t) = gp C (lTm t) := by simp (disch := omega) only [gp_ne, gpa_ne, gp_sp, gp_sa, upd_eq, upd_ne, gq_sp, gq_sa]; rw [c1.1 (lTm t) (by simp)]
    have gq0 : gq (sp C1 (lPk t) i v) = gq C := by funext l; rw [gq_sp]; unfold gq; rw [c1.2.2]
    rcases c4 p h with z | ⟨z1, z2, -, z3⟩
    · obtain ⟨C', y1, y2, y3, y4, y5⟩ := pkw_fs (T := T) (R := R1) ht (8 - (i + 1)) (i + 1) (sp C1 (lPk t) i v) (by omega) (FS_c (by simp (disch := omega) only [gp_ne, gpa_ne, gp_sp, gp_sa, upd_eq, upd_ne, gq_sp, gq_sa]) z)
      exact ⟨C', R1, eC _ y1, eR _ (rk_fs z), frN_trans f0 y2, c2, by rw [y4, gt], by rw [y5, gq0], Or.inl y3⟩
    · obtain ⟨C', R', y1, y2, y3, y4, y5, y6, y7⟩ := ih (i + 1) (p + 1) (sp C1 (lPk t) i v) R1 (by omega) (by omega) (RS_c (by simp (disch := omega) only [gp_ne, gpa_ne, gp_sp, gp_sa, upd_eq, upd_ne, gq_sp, gq_sa]) (by simp (disch := omega) only [gp_ne, gpa_ne, gp_sp, gp_sa, upd_eq, upd_ne, gq_sp, gq_sa]) z1) (by rw [gt]; exact h4) (relR_trans hr c2) (fun a ha => by
        by_cases q : a = i
        · subst q; simp (disch := omega) only [gp_ne, gpa_ne, gp_sp, gp_sa, upd_eq, upd_ne, gq_sp, gq_sa]; rw [z2, wW_rel hr, ep]
        · simp (disch := omega) only [gp_ne, gpa_ne, gp_sp, gp_sa, upd_eq, upd_ne, gq_sp, gq_sa]; rw [c1.1 (lPk t) (by simp)]; exact hp a (by omega))
      exact ⟨C', R', eC _ y1, eR _ y2, frN_trans f0 y3, relR_trans c2 y4, by rw [y5, gt], by rw [y6, gq0], y7⟩
set_option maxHeartbeats 4000000 in
theorem num_2 {T : kT} {m t p : Nat} {C R : kM} (ht : t < T.2) (hk : gp C (lTm t) 0 = nI 2) (hs : RS m p C R) : Num T m 2 t p C R := by
  obtain ⟨v, C1, x, R1, e1, e2, c1, c2, c3, c4⟩ := stIn (T := T) 1 8 (Or.inl ⟨p, hs⟩)
  have q1 : ∀ l, gq C1 l = gq C l := fun l => by unfold gq; rw [c1.2.2]
  have eC : ∀ Z, F_40_128 T t 0 (sp C1 (lTm t) 4 v) = Z → F_40 T (some t) C = Z := by
    intro Z hZ
    unfold F_40
    rw [kOpt_s, lv_tm ht, kGd_t, hk]
    simp (disch := omega) only [pn_mulL, pn_addL, pn_addR, pn_ltL, pn_ltR, pn_leL, pn_leR, pn_eqL, pn_eqR, pn_subL, pn_z, pn_add, pn_mul, pn_nat, pn_inj, pn_lt, pn_le, pn_neg, kGx_nI, kGx_L, kGd_t, kBd_s, kOpt_s, kOpt_n, kLf_s, kAg_l, kAg_r, kAg_f, if_true, if_false, ite_true, ite_false, eq_self_iff_true, ↓reduceIte, Nat.reduceEqDiff, Nat.reduceLeDiff, Nat.reduceLT, Nat.reduceAdd, Nat.reduceMul, Nat.reduceSub, Int32.reduceLT, Int32.reduceLE, Nat.add_zero, Nat.zero_add, Nat.succ_ne_self, Nat.not_lt_zero, Nat.one_ne_zero, Nat.zero_ne_one, i01, i02, i03, i04, i10, i12, i13, i14, i20, i21, i23, i24, i30, i31, i32, i34, i40, i41, i42, i43, not_true_eq_false, not_false_eq_true]
    rw [e1, kBd_s]
    exact hZ
  have eR : ∀ Z, F_116_139 T x 0 R1 = Z → F_116 T (nI 2) R = Z := by
    intro Z hZ
    rw [f116_2, e2, kBd_s]
    exact hZ
  have f0 : frN t C (sp C1 (lTm t) 4 v) := frN_trans (frN_rel c1) (frN_tm (by omega) (by omega))
  rcases c4 p hs with z | ⟨z1, z2, z6, z3, z5⟩
  · obtain ⟨C', y1, y2, y3, y4, y5⟩ := pkw_fs (T := T) (R := R1) ht 8 0 (sp C1 (lTm t) 4 v) (by omega) (FS_c (by simp (disch := omega) only [gp_ne, gpa_ne, gp_sp, gp_sa, upd_eq, upd_ne, gq_sp, gq_sa]) z)
    exact ⟨C', R1, eC _ y1, eR _ (rk_fs (i := 0) z), frN_trans f0 y2, c2, fun j z => Or.inl (by rw [y5, gq_sp, q1] at z; exact z), Or.inl y3⟩
  · have x0 : ¬ wW R p < 0 := by
      intro q
      refine z5.1 ?_
      rw [Int32.lt_iff_toInt_lt] at *
      have e0 : (0 : Int32).toInt = 0 := by decide
      have e1 : (1 : Int32).toInt = 1 := by decide
      omega
    obtain ⟨w, hw, ew⟩ := nI_of x0
    have w1 : 1 ≤ w := by have := z5.1; rw [ew, pn_ltL _ (by omega) (by omega)] at this; omega
    have w8 : w ≤ 8 := by have := z5.2; rw [ew, pn_leL _ (by omega) (by omega)] at this; omega
    have g4 : gp (sp C1 (lTm t) 4 v) (lTm t) 4 = nI w := by simp (disch := omega) only [gp_ne, gpa_ne, gp_sp, gp_sa, upd_eq, upd_ne, gq_sp, gq_sa]; rw [z2, ew]
    obtain ⟨C', R', y1, y2, y3, y4, y5, y6, y7⟩ := pkw_ok (T := T) (m := m) (t := t) (w := w) (p0 := p + 1) (R0 := R1) ht w8 w 0 (p + 1) (sp C1 (lTm t) 4 v) R1 (by omega) (by omega) (RS_c (by simp (disch := omega) only [gp_ne, gpa_ne, gp_sp, gp_sa, upd_eq, upd_ne, gq_sp, gq_sa]) (by simp (disch := omega) only [gp_ne, gpa_ne, gp_sp, gp_sa, upd_eq, upd_ne, gq_sp, gq_sa]) z1) g4 (relR_refl R1) (fun a ha => absurd ha (Nat.not_lt_zero _))
    have exw : x = nI w := z6.trans ew
    subst exw
    refine ⟨C', R', eC _ y1, eR _ y2, frN_trans f0 y3, relR_trans c2 y4, fun j z => Or.inl (by rw [y6, gq_sp, q1] at z; exact z), ?_⟩
    rcases y7 with y | ⟨y8, y9⟩
    · exact Or.inl y
    · have g : ∀ k, k ≠ 4 → gp C' (lTm t) k = gp C (lTm t) k := fun k hk => by rw [y5]; simp (disch := omega) only [gp_ne, gpa_ne, gp_sp, gp_sa, upd_eq, upd_ne, gq_sp, gq_sa]; rw [c1.1 (lTm t) (by simp)]
      refine Or.inr ⟨p + 1 + w, y8, ⟨fun _ _ _ _ => g 1 (by decide), fun _ _ => g 2 (by decide), fun _ _ _ => g 3 (by decide), fun _ => by rw [y6, gq_sp, q1]⟩, fun z => absurd z (by decide), fun z => absurd z (by decide), fun _ => ⟨w, w1, w8, ew, rfl, by rw [y5]; exact g4, fun i hi => by rw [y9 i hi, wW_rel c2]⟩, fun z => absurd z (by decide), fun z => absurd z (by decide), fun z => absurd z (by decide), fun z => absurd z (by decide), fun z => absurd z (by decide)⟩
set_option maxHeartbeats 4000000 in
theorem num_all {T : kT} {m k t p : Nat} {C R : kM} (hk10 : k ≤ 10) (ht : t < T.2) (hT : T.1 ≤ 6) (hk : gp C (lTm t) 0 = nI k) (hc : gp C lTs 1 = nI T.1) (ha : ∀ j, j < T.1 → gq C lAl j = some j) (hr : gp R lMo 1 = nI T.1) (hs : RS m p C R) : Num T m k t p C R := by
  have hh : k = 0 ∨ k = 1 ∨ k = 2 ∨ k = 3 ∨ k = 4 ∨ k = 5 ∨ k = 6 ∨ k = 7 ∨ k = 8 ∨ k = 9 ∨ k = 10 := by omega
  rcases hh with rfl | rfl | rfl | rfl | rfl | rfl | rfl | rfl | rfl | rfl | rfl
  · exact num_0 ht hT hk hc ha hr hs
  · exact num_1 ht hk hs
  · exact num_2 ht hk hs
  · exact num_n ht hk (by omega) hs
  · exact num_4 ht hk hs
  · exact num_n ht hk (by omega) hs
  · exact num_n ht hk (by omega) hs
  · exact num_7 ht hk hs
  · exact num_8 ht hk hs
  · exact num_n ht hk (by omega) hs
  · exact num_10 ht hk hs
