/-! how many columns a term has -/
def kidw (T : kT) (t f : Nat) (a : Nat) (q19 : Nat) (C R : kM) : Prop := f < T.2 ∧ f < 60 ∧ gp C (lTm f) 9 = nI a ∧ gp R (lMa q19) t = nI f ∧ gp R (lMa 21) f = nI a ∧ 1 ≤ a ∧ a ≤ 12
/-- the parts: how many columns the first and the second one have (0: there is none) -/
def kids (T : kT) (k t a b : Nat) (C R : kM) : Prop :=
  ((k = 0 ∧ a = 0 ∧ gq C (lTm t) 7 = none ∧ gp R (lMa 19) t = -1) ∨ (k ≠ 0 ∧ ∃ f, gq C (lTm t) 7 = some f ∧ kidw T t f a 19 C R)) ∧
  ((¬ (3 ≤ k ∧ k ≤ 5) ∧ b = 0 ∧ gq C (lTm t) 8 = none ∧ gp R (lMa 20) t = -1) ∨ ((3 ≤ k ∧ k ≤ 5) ∧ ∃ f, gq C (lTm t) 8 = some f ∧ kidw T t f b 20 C R))
def lkF (k a b q n : Nat) (R : kM) : Prop :=
  (k = 1 ∨ k = 7 → n = a ∧ ∃ c, c < a ∧ wW R (q + 1) = nI c) ∧
  (k = 2 → wW R (q + 1) = nI n ∧ ∀ i, i < n → ∃ c, c < a ∧ wW R (q + 2 + i) = nI c) ∧
  (k = 3 → n = a + b) ∧
  (k = 4 → n = a + b ∧ (∃ c, c < a ∧ wW R (q + 1) = nI c) ∧ ∃ c, c < b ∧ wW R (q + 2) = nI c) ∧
  (k = 5 → n = a ∧ a = b) ∧ (k = 6 ∨ k = 8 → n = a) ∧ (k = 9 → n = 1) ∧
  (k = 10 → n = 2 ∧ (∃ c, c < a ∧ wW R (q + 1) = nI c) ∧ ∃ c, c < a ∧ wW R (q + 3) = nI c)
set_option maxHeartbeats 4000000 in
theorem F42_in {T : kT} {a c : Nat} {C : kM} (h : c < a) (ha : a < 2147483648) : F_42 T (nI c) (nI a) C = some (1, C) := by
  unfold F_42
  rw [if_neg (by rw [pn_neg (by omega)]; exact id), if_neg (by rw [pn_le (by omega) (by omega)]; omega)]
set_option maxHeartbeats 4000000 in
theorem F42_out {T : kT} {a : Nat} {x : Int32} {C : kM} (h : x < 0 ∨ nI a ≤ x) : F_42 T x (nI a) C = some (0, C) := by
  unfold F_42
  by_cases q : x < 0
  · rw [if_pos q]
  · rw [if_neg q, if_pos (h.resolve_left q)]
set_option maxHeartbeats 4000000 in
theorem r_told {T : kT} {t q i : Nat} {R : kM} (ht : t < 60) (hq : gp R (lMa 17) t = nI q) (hi : q + i < 60) : F_117 T (nI t) (nI i) R = some (wW R (q + i), R) := by
  unfold F_117
  simp (disch := omega) only [pn_mulL, pn_addL, pn_addR, pn_ltL, pn_ltR, pn_leL, pn_leR, pn_eqL, pn_eqR, pn_subL, pn_z, pn_add, pn_mul, pn_nat, pn_inj, pn_lt, pn_le, pn_neg, kGx_nI, kGx_L, hq]
set_option maxHeartbeats 4000000 in
theorem cw_kids {T : kT} {k t a b : Nat} {C R : kM} (h : kids T k t a b C R) : F_18 T (gq C (lTm t) 7) C = some (nI a, C) ∧ F_18 T (gq C (lTm t) 8) C = some (nI b, C) := by
  obtain ⟨h1, h2⟩ := h
  constructor
  · rcases h1 with ⟨-, rfl, e, -⟩ | ⟨-, f, e, k1, k2, k3, k4⟩
    · rw [e]; rfl
    · unfold F_18; rw [e, kOpt_s, lv_tm k1, kGd_t, k3]
  · rcases h2 with ⟨-, rfl, e, -⟩ | ⟨-, f, e, k1, k2, k3, k4⟩
    · rw [e]; rfl
    · unfold F_18; rw [e, kOpt_s, lv_tm k1, kGd_t, k3]
set_option maxHeartbeats 4000000 in
theorem lk_kids {T : kT} {k t a b : Nat} {C R : kM} (ht : t < 60) (h : kids T k t a b C R) (x : Int32) : F_119 T (nI t) x R = F_119_49 T (nI t) x (nI a) (nI b) R := by
  obtain ⟨h1, h2⟩ := h
  have e24 : ∀ y, F_119_24 T (nI t) x y R = F_119_49 T (nI t) x y (nI b) R := by
    intro y
    unfold F_119_24
    rw [kGx_nI ht (by omega), pn_nat (by omega)]
    rcases h2 with ⟨-, rfl, -, e⟩ | ⟨-, f, -, k1, k2, k3, k4, k5, k6, k7⟩
    · rw [e, if_neg (by decide)]; rfl
    · rw [k4, if_pos (pn_ge0 (by omega)), kGx_nI ht (by omega), kGx_nI k2 (by omega), pn_nat (by omega), k5]
  unfold F_119
  rw [kGx_nI ht (by omega), pn_nat (by omega)]
  rcases h1 with ⟨-, rfl, -, e⟩ | ⟨-, f, -, k1, k2, k3, k4, k5, k6, k7⟩
  · rw [e, if_neg (by decide), e24]; rfl
  · rw [k4, if_pos (pn_ge0 (by omega)), kGx_nI ht (by omega), kGx_nI k2 (by omega), pn_nat (by omega), k5, e24]
abbrev Lok (T : kT) (k t a b q : Nat) (C R : kM) : Prop :=
  (∃ n, (k ≠ 0 → lkF k a b q n R) ∧ (k = 0 → ∃ j, j < T.1 ∧ wW R (q + 1) = nI j ∧ gp C (lTb j) 0 = nI n) ∧ 1 ≤ n ∧ n ≤ 24 ∧ F_41 T (some t) C = some (nI n, C) ∧ F_119 T (nI t) (nI k) R = F_119_291 T (nI t) 1 (nI n) R) ∨
  (∃ n, F_41 T (some t) C = some (0, C) ∧ F_119 T (nI t) (nI k) R = F_119_291 T (nI t) 0 (nI n) R)
set_option maxHeartbeats 4000000 in
theorem lkF_of {k a b q n : Nat} {R : kM} (h1 : k = 1 ∨ k = 7 → n = a ∧ ∃ c, c < a ∧ wW R (q + 1) = nI c) (h2 : k = 2 → wW R (q + 1) = nI n ∧ ∀ i, i < n → ∃ c, c < a ∧ wW R (q + 2 + i) = nI c) (h3 : k = 3 → n = a + b) (h4 : k = 4 → n = a + b ∧ (∃ c, c < a ∧ wW R (q + 1) = nI c) ∧ ∃ c, c < b ∧ wW R (q + 2) = nI c) (h5 : k = 5 → n = a ∧ a = b) (h6 : k = 6 ∨ k = 8 → n = a) (h9 : k = 9 → n = 1) (h10 : k = 10 → n = 2 ∧ (∃ c, c < a ∧ wW R (q + 1) = nI c) ∧ ∃ c, c < a ∧ wW R (q + 3) = nI c) : lkF k a b q n R := ⟨h1, h2, h3, h4, h5, h6, h9, h10⟩
set_option maxHeartbeats 4000000 in
theorem look_0 {T : kT} {t q b : Nat} {C R : kM} (ht : t < 60) (htT : t < T.2) (hT : T.1 ≤ 6) (hk : gp C (lTm t) 0 = nI 0) (hq : gp R (lMa 17) t = nI q) (hq6 : q + 2 ≤ 60) (h : kids T 0 t 0 b C R) {j n : Nat} (hj : j < T.1) (hw : wW R (q + 1) = nI j) (hs : gq C (lTm t) 6 = some j) (hn : gp C (lTb j) 0 = nI n) (hn2 : gp R (lMa 2) j = nI n) (hn1 : 1 ≤ n) (hn6 : n ≤ 6) : Lok T 0 t 0 b q C R := by
  obtain ⟨c1, c2⟩ := cw_kids h
  refine Or.inl ⟨n, fun z => absurd rfl z, fun _ => ⟨j, hj, hw, hn⟩, hn1, by omega, ?_, ?_⟩
  · unfold F_41
    rw [kOpt_s, lv_tm htT, kGd_t, c1, kBd_s, c2, kBd_s, hk, if_pos (show nI 0 = 0 from rfl), hs, kOpt_s, lv_tb hj, kGd_t, hn]
  · rw [lk_kids ht h]
    have t1 : F_117 T (nI t) 1 R = some (wW R (q + 1), R) := r_told (i := 1) ht hq (by omega)
    unfold F_119_49
    rw [if_pos (show nI 0 = 0 from rfl), t1, kBd_s, hw, kGx_nI (by omega) (by omega), pn_nat (by omega), hn2]
    unfold F_119_74 F_119_111 F_119_145 F_119_179 F_119_197 F_119_213 F_119_222 F_119_231
    simp (disch := omega) only [pn_mulL, pn_addL, pn_addR, pn_ltL, pn_ltR, pn_leL, pn_leR, pn_eqL, pn_eqR, pn_subL, pn_z, pn_add, pn_mul, pn_nat, pn_inj, pn_lt, pn_le, pn_neg, kGx_nI, kGx_L, kGd_t, kBd_s, kOpt_s, kOpt_n, kLf_s, kAg_l, kAg_r, kAg_f, if_true, if_false, ite_true, ite_false, eq_self_iff_true, ↓reduceIte, Nat.reduceEqDiff, Nat.reduceLeDiff, Nat.reduceLT, Nat.reduceAdd, Nat.reduceMul, Nat.reduceSub, Int32.reduceLT, Int32.reduceLE, Nat.add_zero, Nat.zero_add, Nat.succ_ne_self, Nat.not_lt_zero, Nat.one_ne_zero, Nat.zero_ne_one, i01, i02, i03, i04, i10, i12, i13, i14, i20, i21, i23, i24, i30, i31, i32, i34, i40, i41, i42, i43, not_true_eq_false, not_false_eq_true]
set_option maxHeartbeats 4000000 in
theorem look_s {T : kT} {k t q a b : Nat} {C R : kM} (hk17 : k = 1 ∨ k = 7) (ht : t < 60) (htT : t < T.2) (hk : gp C (lTm t) 0 = nI k) (hq : gp R (lMa 17) t = nI q) (hq6 : q + 2 ≤ 60) (h : kids T k t a b C R) (ha : 1 ≤ a) (ha12 : a ≤ 12) (hf : gp C (lTm t) 1 = wW R (q + 1)) : Lok T k t a b q C R := by
  obtain ⟨c1, c2⟩ := cw_kids h
  have t1 : F_117 T (nI t) 1 R = some (wW R (q + 1), R) := r_told (i := 1) ht hq (by omega)
  have eR : ∀ g, F_95 T (wW R (q + 1)) 0 (nI a - 1) R = some (g, R) → F_119 T (nI t) (nI k) R = F_119_291 T (nI t) g (nI a) R := by
    intro g hg
    have e96 : ∀ k y z : Int32, F_119_96 T (nI t) k (nI a) y z R = F_119_111 T (nI t) k (nI a) y g z R := by
      intro k y z
      unfold F_119_96
      rw [t1, kBd_s, hg, kBd_s]
    rw [lk_kids ht h]
    unfold F_119_49 F_119_74
    rcases hk17 with rfl | rfl
    · simp (disch := omega) only [pn_mulL, pn_addL, pn_addR, pn_ltL, pn_ltR, pn_leL, pn_leR, pn_eqL, pn_eqR, pn_subL, pn_z, pn_add, pn_mul, pn_nat, pn_inj, pn_lt, pn_le, pn_neg, kGx_nI, kGx_L, kGd_t, kBd_s, kOpt_s, kOpt_n, kLf_s, kAg_l, kAg_r, kAg_f, if_true, if_false, ite_true, ite_false, eq_self_iff_true, ↓reduceIte, Nat.reduceEqDiff, Nat.reduceLeDiff, Nat.reduceLT, Nat.reduceAdd, Nat.reduceMul, Nat.reduceSub, Int32.reduceLT, Int32.reduceLE, Nat.add_zero, Nat.zero_add, Nat.succ_ne_self, Nat.not_lt_zero, Nat.one_ne_zero, Nat.zero_ne_one, i01, i02, i03, i04, i10, i12, i13, i14, i20, i21, i23, i24, i30, i31, i32, i34, i40, i41, i42, i43, not_true_eq_false, not_false_eq_true, e96]
      unfold F_119_111 F_119_145 F_119_179 F_119_197 F_119_213 F_119_222 F_119_231
      simp (disch := omega) only [pn_mulL, pn_addL, pn_addR, pn_ltL, pn_ltR, pn_leL, pn_leR, pn_eqL, pn_eqR, pn_subL, pn_z, pn_add, pn_mul, pn_nat, pn_inj, pn_lt, pn_le, pn_neg, kGx_nI, kGx_L, kGd_t, kBd_s, kOpt_s, kOpt_n, kLf_s, kAg_l, kAg_r, kAg_f, if_true, if_false, ite_true, ite_false, eq_self_iff_true, ↓reduceIte, Nat.reduceEqDiff, Nat.reduceLeDiff, Nat.reduceLT, Nat.reduceAdd, Nat.reduceMul, Nat.reduceSub, Int32.reduceLT, Int32.reduceLE, Nat.add_zero, Nat.zero_add, Nat.succ_ne_self, Nat.not_lt_zero, Nat.one_ne_zero, Nat.zero_ne_one, i01, i02, i03, i04, i10, i12, i13, i14, i20, i21, i23, i24, i30, i31, i32, i34, i40, i41, i42, i43, not_true_eq_false, not_false_eq_true]
    · simp (disch := omega) only [pn_mulL, pn_addL, pn_addR, pn_ltL, pn_ltR, pn_leL, pn_leR, pn_eqL, pn_eqR, pn_subL, pn_z, pn_add, pn_mul, pn_nat, pn_inj, pn_lt, pn_le, pn_neg, kGx_nI, kGx_L, kGd_t, kBd_s, kOpt_s, kOpt_n, kLf_s, kAg_l, kAg_r, kAg_f, if_true, if_false, ite_true, ite_false, eq_self_iff_true, ↓reduceIte, Nat.reduceEqDiff, Nat.reduceLeDiff, Nat.reduceLT, Nat.reduceAdd, Nat.reduceMul, Nat.reduceSub, Int32.reduceLT, Int32.reduceLE, Nat.add_zero, Nat.zero_add, Nat.succ_ne_self, Nat.not_lt_zero, Nat.one_ne_zero, Nat.zero_ne_one, i01, i02, i03, i04, i10, i12, i13, i14, i20, i21, i23, i24, i30, i31, i32, i34, i40, i41, i42, i43, not_true_eq_false, not_false_eq_true, e96]
      unfold F_119_111 F_119_145 F_119_179 F_119_197 F_119_213 F_119_222 F_119_231
      simp (disch := omega) only [pn_mulL, pn_addL, pn_addR, pn_ltL, pn_ltR, pn_leL, pn_leR, pn_eqL, pn_eqR, pn_subL, pn_z, pn_add, pn_mul, pn_nat, pn_inj, pn_lt, pn_le, pn_neg, kGx_nI, kGx_L, kGd_t, kBd_s, kOpt_s, kOpt_n, kLf_s, kAg_l, kAg_r, kAg_f, if_true, if_false, ite_true, ite_false, eq_self_iff_true, ↓reduceIte, Nat.reduceEqDiff, Nat.reduceLeDiff, Nat.reduceLT, Nat.reduceAdd, Nat.reduceMul, Nat.reduceSub, Int32.reduceLT, Int32.reduceLE, Nat.add_zero, Nat.zero_add, Nat.succ_ne_self, Nat.not_lt_zero, Nat.one_ne_zero, Nat.zero_ne_one, i01, i02, i03, i04, i10, i12, i13, i14, i20, i21, i23, i24, i30, i31, i32, i34, i40, i41, i42, i43, not_true_eq_false, not_false_eq_true]
  have eC : ∀ g, F_42 T (wW R (q + 1)) (nI a) C = some (g, C) → F_41 T (some t) C = (if g = 0 then some (0, C) else some (nI a, C)) := by
    intro g hg
    unfold F_41
    rw [kOpt_s, lv_tm htT, kGd_t, c1, kBd_s, c2, kBd_s, hk, hf, hg]
    rcases hk17 with rfl | rfl <;> simp (disch := omega) only [pn_mulL, pn_addL, pn_addR, pn_ltL, pn_ltR, pn_leL, pn_leR, pn_eqL, pn_eqR, pn_subL, pn_z, pn_add, pn_mul, pn_nat, pn_inj, pn_lt, pn_le, pn_neg, kGx_nI, kGx_L, kGd_t, kBd_s, kOpt_s, kOpt_n, kLf_s, kAg_l, kAg_r, kAg_f, if_true, if_false, ite_true, ite_false, eq_self_iff_true, ↓reduceIte, Nat.reduceEqDiff, Nat.reduceLeDiff, Nat.reduceLT, Nat.reduceAdd, Nat.reduceMul, Nat.reduceSub, Int32.reduceLT, Int32.reduceLE, Nat.add_zero, Nat.zero_add, Nat.succ_ne_self, Nat.not_lt_zero, Nat.one_ne_zero, Nat.zero_ne_one, i01, i02, i03, i04, i10, i12, i13, i14, i20, i21, i23, i24, i30, i31, i32, i34, i40, i41, i42, i43, not_true_eq_false, not_false_eq_true]
  rcases in_cases (wW R (q + 1)) a (by omega) with ⟨c, hc, e⟩ | ho
  · refine Or.inl ⟨a, fun _ => lkF_of (fun _ => ⟨rfl, c, hc, e⟩) (fun z => by omega) (fun z => by omega) (fun z => by omega) (fun z => by omega) (fun z => by omega) (fun z => by omega) (fun z => by omega), fun z => by omega, ha, by omega, ?_, ?_⟩
    · rw [eC 1 (by rw [e]; exact F42_in hc (by omega)), if_neg (by decide)]
    · exact eR 1 (by rw [e]; exact F95_in hc (by omega))
  · refine Or.inr ⟨a, ?_, ?_⟩
    · rw [eC 0 (F42_out ho), if_pos rfl]
    · exact eR 0 (F95_out (by omega) ho)
set_option maxHeartbeats 4000000 in
theorem look_p {T : kT} {k t q a b : Nat} {C R : kM} (hkp : k = 3 ∨ k = 6 ∨ k = 8 ∨ k = 9) (ht : t < 60) (htT : t < T.2) (hk : gp C (lTm t) 0 = nI k) (h : kids T k t a b C R) (ha : 1 ≤ a) (ha12 : a ≤ 12) (hb12 : b ≤ 12) : Lok T k t a b q C R := by
  obtain ⟨c1, c2⟩ := cw_kids h
  refine Or.inl ⟨if k = 3 then a + b else if k = 9 then 1 else a, fun _ => ?_, fun z => by omega, ?_, ?_, ?_, ?_⟩
  · rcases hkp with rfl | rfl | rfl | rfl
    · exact lkF_of (fun z => by omega) (fun z => by omega) (fun _ => rfl) (fun z => by omega) (fun z => by omega) (fun z => by omega) (fun z => by omega) (fun z => by omega)
    · exact lkF_of (fun z => by omega) (fun z => by omega) (fun z => by omega) (fun z => by omega) (fun z => by omega) (fun _ => rfl) (fun z => by omega) (fun z => by omega)
    · exact lkF_of (fun z => by omega) (fun z => by omega) (fun z => by omega) (fun z => by omega) (fun z => by omega) (fun _ => rfl) (fun z => by omega) (fun z => by omega)
    · exact lkF_of (fun z => by omega) (fun z => by omega) (fun z => by omega) (fun z => by omega) (fun z => by omega) (fun z => by omega) (fun _ => rfl) (fun z => by omega)
  · rcases hkp with rfl | rfl | rfl | rfl <;> simp only [Nat.reduceEqDiff, if_true, if_false] <;> omega
  · rcases hkp with rfl | rfl | rfl | rfl <;> simp only [Nat.reduceEqDiff, if_true, if_false] <;> omega
  · unfold F_41
    rw [kOpt_s, lv_tm htT, kGd_t, c1, kBd_s, c2, kBd_s, hk]
    rcases hkp with rfl | rfl | rfl | rfl <;> simp (disch := omega) only [pn_mulL, pn_addL, pn_addR, pn_ltL, pn_ltR, pn_leL, pn_leR, pn_eqL, pn_eqR, pn_subL, pn_z, pn_add, pn_mul, pn_nat, pn_inj, pn_lt, pn_le, pn_neg, kGx_nI, kGx_L, kGd_t, kBd_s, kOpt_s, kOpt_n, kLf_s, kAg_l, kAg_r, kAg_f, if_true, if_false, ite_true, ite_false, eq_self_iff_true, ↓reduceIte, Nat.reduceEqDiff, Nat.reduceLeDiff, Nat.reduceLT, Nat.reduceAdd, Nat.reduceMul, Nat.reduceSub, Int32.reduceLT, Int32.reduceLE, Nat.add_zero, Nat.zero_add, Nat.succ_ne_self, Nat.not_lt_zero, Nat.one_ne_zero, Nat.zero_ne_one, i01, i02, i03, i04, i10, i12, i13, i14, i20, i21, i23, i24, i30, i31, i32, i34, i40, i41, i42, i43, not_true_eq_false, not_false_eq_true] <;> rfl
  · rw [lk_kids ht h]
    unfold F_119_49 F_119_74 F_119_111 F_119_145 F_119_179 F_119_197 F_119_213 F_119_222 F_119_231
    rcases hkp with rfl | rfl | rfl | rfl <;> simp (disch := omega) only [pn_mulL, pn_addL, pn_addR, pn_ltL, pn_ltR, pn_leL, pn_leR, pn_eqL, pn_eqR, pn_subL, pn_z, pn_add, pn_mul, pn_nat, pn_inj, pn_lt, pn_le, pn_neg, kGx_nI, kGx_L, kGd_t, kBd_s, kOpt_s, kOpt_n, kLf_s, kAg_l, kAg_r, kAg_f, if_true, if_false, ite_true, ite_false, eq_self_iff_true, ↓reduceIte, Nat.reduceEqDiff, Nat.reduceLeDiff, Nat.reduceLT, Nat.reduceAdd, Nat.reduceMul, Nat.reduceSub, Int32.reduceLT, Int32.reduceLE, Nat.add_zero, Nat.zero_add, Nat.succ_ne_self, Nat.not_lt_zero, Nat.one_ne_zero, Nat.zero_ne_one, i01, i02, i03, i04, i10, i12, i13, i14, i20, i21, i23, i24, i30, i31, i32, i34, i40, i41, i42, i43, not_true_eq_false, not_false_eq_true] <;> rfl
set_option maxHeartbeats 4000000 in
theorem look_5 {T : kT} {t q a b : Nat} {C R : kM} (ht : t < 60) (htT : t < T.2) (hk : gp C (lTm t) 0 = nI 5) (h : kids T 5 t a b C R) (ha : 1 ≤ a) (ha12 : a ≤ 12) (hb12 : b ≤ 12) : Lok T 5 t a b q C R := by
  obtain ⟨c1, c2⟩ := cw_kids h
  have eC : F_41 T (some t) C = if nI a = nI b then some (nI a, C) else some (0, C) := by
    unfold F_41
    rw [kOpt_s, lv_tm htT, kGd_t, c1, kBd_s, c2, kBd_s, hk]
    simp (disch := omega) only [pn_mulL, pn_addL, pn_addR, pn_ltL, pn_ltR, pn_leL, pn_leR, pn_eqL, pn_eqR, pn_subL, pn_z, pn_add, pn_mul, pn_nat, pn_inj, pn_lt, pn_le, pn_neg, kGx_nI, kGx_L, kGd_t, kBd_s, kOpt_s, kOpt_n, kLf_s, kAg_l, kAg_r, kAg_f, if_true, if_false, ite_true, ite_false, eq_self_iff_true, ↓reduceIte, Nat.reduceEqDiff, Nat.reduceLeDiff, Nat.reduceLT, Nat.reduceAdd, Nat.reduceMul, Nat.reduceSub, Int32.reduceLT, Int32.reduceLE, Nat.add_zero, Nat.zero_add, Nat.succ_ne_self, Nat.not_lt_zero, Nat.one_ne_zero, Nat.zero_ne_one, i01, i02, i03, i04, i10, i12, i13, i14, i20, i21, i23, i24, i30, i31, i32, i34, i40, i41, i42, i43, not_true_eq_false, not_false_eq_true]
  have eR : F_119 T (nI t) (nI 5) R = if nI a = nI b then F_119_291 T (nI t) 1 (nI a) R else F_119_291 T (nI t) 0 (nI a) R := by
    rw [lk_kids ht h]
    unfold F_119_49 F_119_74 F_119_111 F_119_145 F_119_179 F_119_197 F_119_213 F_119_222 F_119_231
    simp (disch := omega) only [pn_mulL, pn_addL, pn_addR, pn_ltL, pn_ltR, pn_leL, pn_leR, pn_eqL, pn_eqR, pn_subL, pn_z, pn_add, pn_mul, pn_nat, pn_inj, pn_lt, pn_le, pn_neg, kGx_nI, kGx_L, kGd_t, kBd_s, kOpt_s, kOpt_n, kLf_s, kAg_l, kAg_r, kAg_f, if_true, if_false, ite_true, ite_false, eq_self_iff_true, ↓reduceIte, Nat.reduceEqDiff, Nat.reduceLeDiff, Nat.reduceLT, Nat.reduceAdd, Nat.reduceMul, Nat.reduceSub, Int32.reduceLT, Int32.reduceLE, Nat.add_zero, Nat.zero_add, Nat.succ_ne_self, Nat.not_lt_zero, Nat.one_ne_zero, Nat.zero_ne_one, i01, i02, i03, i04, i10, i12, i13, i14, i20, i21, i23, i24, i30, i31, i32, i34, i40, i41, i42, i43, not_true_eq_false, not_false_eq_true]
  by_cases e : nI a = nI b
  · have ab : a = b := by rwa [pn_inj (by omega) (by omega)] at e
    rw [if_pos e] at eC eR
    exact Or.inl ⟨a, fun _ => lkF_of (fun z => by omega) (fun z => by omega) (fun z => by omega) (fun z => by omega) (fun _ => ⟨rfl, ab⟩) (fun z => by omega) (fun z => by omega) (fun z => by omega), fun z => by omega, ha, by omega, eC, eR⟩
  · rw [if_neg e] at eC eR
    exact Or.inr ⟨a, eC, eR⟩
