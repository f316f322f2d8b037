set_option maxHeartbeats 4000000 in
theorem pSm_l {β γ : Type} {E : Nat} {f : Nat → Option β} {g : γ → Option β} : kSm (.inl E : Nat ⊕ γ) f g = f E := rfl
set_option maxHeartbeats 4000000 in
theorem pSm_r {β γ : Type} {v : γ} {f : Nat → Option β} {g : γ → Option β} : kSm (.inr v : Nat ⊕ γ) f g = g v := rfl
set_option maxHeartbeats 4000000 in
theorem says1 {T : kT} {M : kM} : F_96 T 1 M = some (1, sp M lMo 0 0) := rfl
set_option maxHeartbeats 4000000 in
theorem says0 {T : kT} {M : kM} : F_96 T 0 M = some (0, sp M lMo 0 1) := rfl
set_option maxHeartbeats 4000000 in
theorem c_stage {T : kT} {M : kM} {a v : Int32} (h : iNv T M) : ∃ k M1 M2, F_145 T a v M = some (k, M1) ∧ F_102 T a v M1 = some ((), M2) ∧ gp M2 lMo 0 = k ∧ iNv T M2 := by
  rcases in_cases a 6 (by omega) with ⟨j, hj, rfl⟩ | ho
  · refine ⟨0, sp M lHa j v, sp (sp (sp M lHa j v) lMo 0 0) (lMa 6) j v, ?_, ?_, ?_, ?_⟩
    · unfold F_145 F_3
      simp (disch := omega) only [pn_mulL, pn_addL, pn_addR, pn_ltL, pn_ltR, pn_leL, pn_leR, pn_eqL, pn_eqR, pn_subL, pn_z, pn_add, pn_mul, pn_nat, pn_inj, pn_lt, pn_le, pn_neg, kGx_nI, kGx_L, kGd_t, kBd_s, kOpt_s, kOpt_n, kLf_s, kAg_l, kAg_r, kAg_f, if_true, if_false, ite_true, ite_false, eq_self_iff_true, ↓reduceIte, Nat.reduceEqDiff, Nat.reduceLeDiff, Nat.reduceLT, Nat.reduceAdd, Nat.reduceMul, Nat.reduceSub, Int32.reduceLT, Int32.reduceLE, Nat.add_zero, Nat.zero_add, Nat.succ_ne_self, Nat.not_lt_zero, Nat.one_ne_zero, Nat.zero_ne_one, i01, i02, i03, i04, i10, i12, i13, i14, i20, i21, i23, i24, i30, i31, i32, i34, i40, i41, i42, i43, not_true_eq_false, not_false_eq_true, pSm_r]
      rw [if_pos (by omega), kBd_s, pSm_r]
    · unfold F_102
      rw [show (5 : Int32) = nI 6 - 1 from rfl, F95_in hj (by omega), kBd_s, says1, kBd_s, if_neg (by decide)]
      simp (disch := omega) only [pn_mulL, pn_addL, pn_addR, pn_ltL, pn_ltR, pn_leL, pn_leR, pn_eqL, pn_eqR, pn_subL, pn_z, pn_add, pn_mul, pn_nat, pn_inj, pn_lt, pn_le, pn_neg, kGx_nI, kGx_L]
    · simp (disch := omega) only [gp_ne, gpa_ne, gp_sp, gp_sa, upd_eq, upd_ne, gq_sp, gq_sa]
    · obtain ⟨a, b, c, d⟩ := h
      refine ⟨iA_cg (by simp (disch := omega) only [gp_ne, gpa_ne, gp_sp, gp_sa, upd_eq, upd_ne, gq_sp, gq_sa]) (fun a j x y => by simp (disch := omega) only [gp_ne, gpa_ne, gp_sp, gp_sa, upd_eq, upd_ne, gq_sp, gq_sa]) (fun j _ => by simp (disch := omega) only [gp_ne, gpa_ne, gp_sp, gp_sa, upd_eq, upd_ne, gq_sp, gq_sa]) (by simp (disch := omega) only [gp_ne, gpa_ne, gp_sp, gp_sa, upd_eq, upd_ne, gq_sp, gq_sa]) (by simp (disch := omega) only [gp_ne, gpa_ne, gp_sp, gp_sa, upd_eq, upd_ne, gq_sp, gq_sa]) (by simp (disch := omega) only [gp_ne, gpa_ne, gp_sp, gp_sa, upd_eq, upd_ne, gq_sp, gq_sa]) rfl a, ?_, iQ_cg (fun a j x y _ _ => by simp (disch := omega) only [gp_ne, gpa_ne, gp_sp, gp_sa, upd_eq, upd_ne, gq_sp, gq_sa]) (fun j _ _ _ => by simp (disch := omega) only [gp_ne, gpa_ne, gp_sp, gp_sa, upd_eq, upd_ne, gq_sp, gq_sa]) (by simp (disch := omega) only [gp_ne, gpa_ne, gp_sp, gp_sa, upd_eq, upd_ne, gq_sp, gq_sa]) (by simp (disch := omega) only [gp_ne, gpa_ne, gp_sp, gp_sa, upd_eq, upd_ne, gq_sp, gq_sa]) (fun l => rfl) (by simp (disch := omega) only [gp_ne, gpa_ne, gp_sp, gp_sa, upd_eq, upd_ne, gq_sp, gq_sa]) c, iZ_cg (fun l => rfl) d⟩
      unfold iB at *
      simp (disch := omega) only [gp_ne, gpa_ne, gp_sp, gp_sa, upd_eq, upd_ne, gq_sp, gq_sa]
      refine ⟨fun c hc => ?_, b.2⟩
      by_cases q : c = j
      · rw [q, upd_eq, upd_eq]
      · rw [upd_ne q, upd_ne q]; exact b.1 c hc
  · refine ⟨1, M, sp M lMo 0 1, ?_, ?_, by simp (disch := omega) only [gp_ne, gpa_ne, gp_sp, gp_sa, upd_eq, upd_ne, gq_sp, gq_sa], iNv_mo h⟩
    · unfold F_145 F_3 F_3_10
      by_cases q : a < 0
      · rw [if_pos q]; rfl
      · rw [if_neg q, if_neg (show ¬ a < 6 from not_lt_of (ho.resolve_left q))]; rfl
    · unfold F_102
      rw [show (5 : Int32) = nI 6 - 1 from rfl, F95_out (by omega) ho, kBd_s, says0, kBd_s, if_pos rfl]
set_option maxHeartbeats 4000000 in
theorem c_feed {T : kT} {M : kM} {w : Int32} (h : iNv T M) : ∃ k M1 b M2, F_153 T w M = some (k, M1) ∧ F_111 T w M1 = some (b, M2) ∧ gp M2 lMo 0 = k ∧ (k = 0 → go M2 0 = b.toInt64) ∧ iNv T M2 := by
  have hh := h
  obtain ⟨a, b, c, d⟩ := h
  obtain ⟨n, hn, n1, n2, n3⟩ := b.2.1
  unfold F_153 F_11 F_31 F_111 F_111_15
  rw [n1]
  by_cases q : n < 60
  · rw [if_pos (by simp (disch := omega) only [pn_mulL, pn_addL, pn_addR, pn_ltL, pn_ltR, pn_leL, pn_leR, pn_eqL, pn_eqR, pn_subL, pn_z, pn_add, pn_mul, pn_nat, pn_inj, pn_lt, pn_le, pn_neg, kGx_nI, kGx_L]; omega), if_neg (by simp (disch := omega) only [pn_mulL, pn_addL, pn_addR, pn_ltL, pn_ltR, pn_leL, pn_leR, pn_eqL, pn_eqR, pn_subL, pn_z, pn_add, pn_mul, pn_nat, pn_inj, pn_lt, pn_le, pn_neg, kGx_nI, kGx_L]; omega), kGx_nI q (by omega), pn_nat (by omega)]
    refine ⟨0, so (sp (sp M lWo n w) lRd 1 (nI (n + 1))) 0 (nI (n + 1)).toInt64, nI (n + 1), sp (sp (sp (so (sp (sp M lWo n w) lRd 1 (nI (n + 1))) 0 (nI (n + 1)).toInt64) lMo 0 0) (lMa 12) n w) lMo 11 (nI (n + 1)), ?_, ?_, ?_, ?_, ?_⟩
    · have r : gp (sp M lWo n w) lRd 1 = nI n := by simp (disch := omega) only [gp_ne, gpa_ne, gp_sp, gp_sa, upd_eq, upd_ne, gq_sp, gq_sa]; exact n1
      rw [r]
      simp (disch := omega) only [kGd_t, kBd_s, kOpt_s, kOpt_n, kLf_s, kAg_l, kAg_r, kAg_f, if_true, if_false, ite_true, ite_false, eq_self_iff_true, ↓reduceIte, Nat.reduceEqDiff, Nat.reduceLeDiff, Nat.reduceLT, Nat.reduceAdd, Nat.reduceMul, Nat.reduceSub, Int32.reduceLT, Int32.reduceLE, Nat.add_zero, Nat.zero_add, Nat.succ_ne_self, Nat.not_lt_zero, Nat.one_ne_zero, Nat.zero_ne_one, i01, i02, i03, i04, i10, i12, i13, i14, i20, i21, i23, i24, i30, i31, i32, i34, i40, i41, i42, i43, not_true_eq_false, not_false_eq_true, pn_mulL, pn_addL, pn_addR, pn_ltL, pn_ltR, pn_leL, pn_leR, pn_eqL, pn_eqR, pn_subL, pn_z, pn_add, pn_mul, pn_nat, pn_inj, pn_lt, pn_le, pn_neg, kGx_nI, kGx_L, pSm_r, gp_ne, gpa_ne, gp_sp, gp_sa, upd_eq, upd_ne, gq_sp, gq_sa]
    · have r1 : gp (so (sp (sp M lWo n w) lRd 1 (nI (n + 1))) 0 (nI (n + 1)).toInt64) lMo = gp M lMo := by rw [gp_so]; simp (disch := omega) only [gp_ne, gpa_ne, gp_sp, gp_sa, upd_eq, upd_ne, gq_sp, gq_sa]
      simp (disch := omega) only [gp_ne, gpa_ne, gp_sp, gp_sa, upd_eq, upd_ne, gq_sp, gq_sa, r1, n2, pn_mulL, pn_addL, pn_addR, pn_ltL, pn_ltR, pn_leL, pn_leR, pn_eqL, pn_eqR, pn_subL, pn_z, pn_add, pn_mul, pn_nat, pn_inj, pn_lt, pn_le, pn_neg, kGx_nI, kGx_L]
      rw [if_neg (by omega), if_pos (by decide)]
    · simp (disch := omega) only [gp_ne, gpa_ne, gp_sp, gp_sa, upd_eq, upd_ne, gq_sp, gq_sa]
    · intro _; rw [go_sp, go_sp, go_sp, go_so]; exact if_pos rfl
    · refine ⟨iA_cg (by simp (disch := omega) only [gp_ne, gpa_ne, gp_sp, gp_sa, upd_eq, upd_ne, gq_sp, gq_sa, gp_so]) (fun a j x y => by simp (disch := omega) only [gp_ne, gpa_ne, gp_sp, gp_sa, upd_eq, upd_ne, gq_sp, gq_sa, gp_so]) (fun j _ => by simp (disch := omega) only [gp_ne, gpa_ne, gp_sp, gp_sa, upd_eq, upd_ne, gq_sp, gq_sa, gp_so]) (by simp (disch := omega) only [gp_ne, gpa_ne, gp_sp, gp_sa, upd_eq, upd_ne, gq_sp, gq_sa, gp_so]) (by simp (disch := omega) only [gp_ne, gpa_ne, gp_sp, gp_sa, upd_eq, upd_ne, gq_sp, gq_sa, gp_so]) (by simp (disch := omega) only [gp_ne, gpa_ne, gp_sp, gp_sa, upd_eq, upd_ne, gq_sp, gq_sa, gp_so]) rfl a, ?_, iQ_cg (fun a j x y _ _ => by simp (disch := omega) only [gp_ne, gpa_ne, gp_sp, gp_sa, upd_eq, upd_ne, gq_sp, gq_sa, gp_so]) (fun j _ _ _ => by simp (disch := omega) only [gp_ne, gpa_ne, gp_sp, gp_sa, upd_eq, upd_ne, gq_sp, gq_sa, gp_so]) (by simp (disch := omega) only [gp_ne, gpa_ne, gp_sp, gp_sa, upd_eq, upd_ne, gq_sp, gq_sa, gp_so]) (by simp (disch := omega) only [gp_ne, gpa_ne, gp_sp, gp_sa, upd_eq, upd_ne, gq_sp, gq_sa, gp_so]) (fun l => rfl) (by simp (disch := omega) only [gp_ne, gpa_ne, gp_sp, gp_sa, upd_eq, upd_ne, gq_sp, gq_sa, gp_so]) c, iZ_cg (fun l => rfl) d⟩
      unfold iB at *
      simp (disch := omega) only [gp_ne, gpa_ne, gp_sp, gp_sa, upd_eq, upd_ne, gq_sp, gq_sa, gp_so]
      refine ⟨b.1, ⟨n + 1, by omega, rfl, rfl, fun k hk => ?_⟩, b.2.2⟩
      by_cases qk : k = n
      · rw [qk, upd_eq, upd_eq]
      · rw [upd_ne qk, upd_ne qk]; exact n3 k (by omega)
  · rw [if_neg (by simp (disch := omega) only [pn_mulL, pn_addL, pn_addR, pn_ltL, pn_ltR, pn_leL, pn_leR, pn_eqL, pn_eqR, pn_subL, pn_z, pn_add, pn_mul, pn_nat, pn_inj, pn_lt, pn_le, pn_neg, kGx_nI, kGx_L]; omega)]
    have n60 : n = 60 := by omega
    refine ⟨1, M, 0, sp M lMo 0 1, rfl, ?_, by simp (disch := omega) only [gp_ne, gpa_ne, gp_sp, gp_sa, upd_eq, upd_ne, gq_sp, gq_sa], fun z => absurd z (by decide), iNv_mo hh⟩
    have r : gp (sp M lMo 0 1) lMo 0 = 1 := by simp (disch := omega) only [gp_ne, gpa_ne, gp_sp, gp_sa, upd_eq, upd_ne, gq_sp, gq_sa]
    rw [n2, n60, if_pos (show nI 60 = 60 from rfl), r, if_neg (by decide)]
set_option maxHeartbeats 4000000 in
theorem c_place {T : kT} {M : kM} (h : iNv T M) : ∃ x M1 M2, F_13 T M = some (x, M1) ∧ F_121 T M1 = some (x, M2) ∧ iNv T M2 := by
  refine ⟨gp M lRd 2, M, sp M lMo 0 0, rfl, ?_, iNv_mo h⟩
  unfold F_121
  simp (disch := omega) only [gp_ne, gpa_ne, gp_sp, gp_sa, upd_eq, upd_ne, gq_sp, gq_sa]
  rw [h.2.1.2.2.1]
set_option maxHeartbeats 4000000 in
theorem c_cost {T : kT} {M : kM} (h : iNv T M) : ∃ x M1 M2, F_16 T M = some (x, M1) ∧ F_142 T M1 = some (x, M2) ∧ iNv T M2 := by
  refine ⟨gp M lRu 1, M, sp M lMo 0 0, rfl, ?_, iNv_mo h⟩
  unfold F_142
  simp (disch := omega) only [gp_ne, gpa_ne, gp_sp, gp_sa, upd_eq, upd_ne, gq_sp, gq_sa]
  rw [h.2.1.2.2.2.2]
set_option maxHeartbeats 4000000 in
theorem c_column {T : kT} {M : kM} {i : Int32} (h : iNv T M) : ∃ x M1 M2, F_15 T i M = some (x, M1) ∧ F_141 T i M1 = some (x, M2) ∧ iNv T M2 := by
  obtain ⟨w, w1, w2, w3, w4⟩ := h.2.1.2.2.2.1
  have r31 : gp (sp M lMo 0 0) lMo 31 = nI w := by simp (disch := omega) only [gp_ne, gpa_ne, gp_sp, gp_sa, upd_eq, upd_ne, gq_sp, gq_sa]; exact w3
  rcases in_cases i w (by omega) with ⟨j, hj, rfl⟩ | ho
  · refine ⟨gp M lLa j, M, sp M lMo 0 0, ?_, ?_, iNv_mo h⟩
    · unfold F_15
      rw [w2]
      simp (disch := omega) only [pn_mulL, pn_addL, pn_addR, pn_ltL, pn_ltR, pn_leL, pn_leR, pn_eqL, pn_eqR, pn_subL, pn_z, pn_add, pn_mul, pn_nat, pn_inj, pn_lt, pn_le, pn_neg, kGx_nI, kGx_L, kGd_t, kBd_s, kOpt_s, kOpt_n, kLf_s, kAg_l, kAg_r, kAg_f, if_true, if_false, ite_true, ite_false, eq_self_iff_true, ↓reduceIte, Nat.reduceEqDiff, Nat.reduceLeDiff, Nat.reduceLT, Nat.reduceAdd, Nat.reduceMul, Nat.reduceSub, Int32.reduceLT, Int32.reduceLE, Nat.add_zero, Nat.zero_add, Nat.succ_ne_self, Nat.not_lt_zero, Nat.one_ne_zero, Nat.zero_ne_one, i01, i02, i03, i04, i10, i12, i13, i14, i20, i21, i23, i24, i30, i31, i32, i34, i40, i41, i42, i43, not_true_eq_false, not_false_eq_true]
      rw [if_neg (by omega)]
    · unfold F_141
      rw [r31, F95_in hj (by omega), kBd_s, if_neg (by decide)]
      simp (disch := omega) only [pn_mulL, pn_addL, pn_addR, pn_ltL, pn_ltR, pn_leL, pn_leR, pn_eqL, pn_eqR, pn_subL, pn_z, pn_add, pn_mul, pn_nat, pn_inj, pn_lt, pn_le, pn_neg, kGx_nI, kGx_L, gp_ne, gpa_ne, gp_sp, gp_sa, upd_eq, upd_ne, gq_sp, gq_sa]
      rw [w4 j hj]
  · refine ⟨0, M, sp M lMo 0 0, ?_, ?_, iNv_mo h⟩
    · unfold F_15
      rw [w2]
      by_cases q : i < 0
      · rw [if_pos q]
      · rw [if_neg q, if_pos (ho.resolve_left q)]
    · unfold F_141
      rw [r31, F95_out (by omega) ho, kBd_s, if_pos rfl]
set_option maxHeartbeats 4000000 in
theorem by_in {T : kT} {M : kM} {j : Nat} (h : iA T M) (hT : T.1 ≤ 6) (hj : j < T.1) : F_83 T (nI j) M = some (some j, M) := by
  unfold F_83
  rw [h.1.1]
  simp (disch := omega) only [pn_mulL, pn_addL, pn_addR, pn_ltL, pn_ltR, pn_leL, pn_leR, pn_eqL, pn_eqR, pn_subL, pn_z, pn_add, pn_mul, pn_nat, pn_inj, pn_lt, pn_le, pn_neg, kGx_nI, kGx_L, kGd_t, kBd_s, kOpt_s, kOpt_n, kLf_s, kAg_l, kAg_r, kAg_f, if_true, if_false, ite_true, ite_false, eq_self_iff_true, ↓reduceIte, Nat.reduceEqDiff, Nat.reduceLeDiff, Nat.reduceLT, Nat.reduceAdd, Nat.reduceMul, Nat.reduceSub, Int32.reduceLT, Int32.reduceLE, Nat.add_zero, Nat.zero_add, Nat.succ_ne_self, Nat.not_lt_zero, Nat.one_ne_zero, Nat.zero_ne_one, i01, i02, i03, i04, i10, i12, i13, i14, i20, i21, i23, i24, i30, i31, i32, i34, i40, i41, i42, i43, not_true_eq_false, not_false_eq_true]
  rw [if_neg (by omega), h.2.1 j hj]
set_option maxHeartbeats 4000000 in
theorem by_out {T : kT} {M : kM} {x : Int32} (h : iA T M) (hT : T.1 ≤ 6) (ho : x < 0 ∨ nI T.1 ≤ x) : F_83 T x M = some (none, M) := by
  unfold F_83
  rw [h.1.1]
  by_cases q : x < 0
  · rw [if_pos q]
  · rw [if_neg q, if_pos (ho.resolve_left q)]
set_option maxHeartbeats 4000000 in
theorem isT_in {T : kT} {M : kM} {j : Nat} (h : gp M lMo 1 = nI T.1) (hT : T.1 ≤ 6) (hj : j < T.1) : F_97 T (nI j) M = some (1, M) := by
  unfold F_97
  rw [h, F95_in hj (by omega)]; rfl
set_option maxHeartbeats 4000000 in
theorem isT_out {T : kT} {M : kM} {x : Int32} (h : gp M lMo 1 = nI T.1) (hT : T.1 ≤ 6) (ho : x < 0 ∨ nI T.1 ≤ x) : F_97 T x M = some (0, M) := by
  unfold F_97
  rw [h, F95_out (by omega) ho]; rfl
set_option maxHeartbeats 4000000 in
theorem isC_in {T : kT} {M : kM} {j c w : Nat} (h : gp M lMo 1 = nI T.1) (hT : T.1 ≤ 6) (hj : j < T.1) (hw : gp M (lMa 2) j = nI w) (hw6 : w ≤ 6) (hc : c < w) : F_98 T (nI j) (nI c) M = some (1, M) := by
  unfold F_98
  rw [isT_in h hT hj, kBd_s, if_neg (by decide)]
  simp (disch := omega) only [pn_mulL, pn_addL, pn_addR, pn_ltL, pn_ltR, pn_leL, pn_leR, pn_eqL, pn_eqR, pn_subL, pn_z, pn_add, pn_mul, pn_nat, pn_inj, pn_lt, pn_le, pn_neg, kGx_nI, kGx_L]
  rw [hw, F95_in hc (by omega), kBd_s, if_neg (by decide)]
set_option maxHeartbeats 4000000 in
theorem isC_out {T : kT} {M : kM} {j w : Nat} {x : Int32} (h : gp M lMo 1 = nI T.1) (hT : T.1 ≤ 6) (hj : j < T.1) (hw : gp M (lMa 2) j = nI w) (hw6 : w ≤ 6) (ho : x < 0 ∨ nI w ≤ x) : F_98 T (nI j) x M = some (0, M) := by
  unfold F_98
  rw [isT_in h hT hj, kBd_s, if_neg (by decide)]
  simp (disch := omega) only [pn_mulL, pn_addL, pn_addR, pn_ltL, pn_ltR, pn_leL, pn_leR, pn_eqL, pn_eqR, pn_subL, pn_z, pn_add, pn_mul, pn_nat, pn_inj, pn_lt, pn_le, pn_neg, kGx_nI, kGx_L]
  rw [hw, F95_out (by omega) ho, kBd_s, if_pos rfl]
set_option maxHeartbeats 4000000 in
theorem isC_outT {T : kT} {M : kM} {x y : Int32} (h : gp M lMo 1 = nI T.1) (hT : T.1 ≤ 6) (ho : x < 0 ∨ nI T.1 ≤ x) : F_98 T x y M = some (0, M) := by
  unfold F_98
  rw [isT_out h hT ho, kBd_s, if_pos rfl]
set_option maxHeartbeats 4000000 in
theorem hasC_in {T : kT} {M : kM} {j c w : Nat} (hj : j < T.1) (hw : gp M (lTb j) 0 = nI w) (hw6 : w ≤ 6) (hc : c < w) : F_71 T j (nI c) M = some (1, M) := by
  unfold F_71
  simp (disch := omega) only [pn_mulL, pn_addL, pn_addR, pn_ltL, pn_ltR, pn_leL, pn_leR, pn_eqL, pn_eqR, pn_subL, pn_z, pn_add, pn_mul, pn_nat, pn_inj, pn_lt, pn_le, pn_neg, kGx_nI, kGx_L, kGd_t, kBd_s, kOpt_s, kOpt_n, kLf_s, kAg_l, kAg_r, kAg_f, if_true, if_false, ite_true, ite_false, eq_self_iff_true, ↓reduceIte, Nat.reduceEqDiff, Nat.reduceLeDiff, Nat.reduceLT, Nat.reduceAdd, Nat.reduceMul, Nat.reduceSub, Int32.reduceLT, Int32.reduceLE, Nat.add_zero, Nat.zero_add, Nat.succ_ne_self, Nat.not_lt_zero, Nat.one_ne_zero, Nat.zero_ne_one, i01, i02, i03, i04, i10, i12, i13, i14, i20, i21, i23, i24, i30, i31, i32, i34, i40, i41, i42, i43, not_true_eq_false, not_false_eq_true, lv_tb, hw]
  rw [if_neg (by omega)]
set_option maxHeartbeats 4000000 in
theorem hasC_out {T : kT} {M : kM} {j w : Nat} {x : Int32} (hj : j < T.1) (hw : gp M (lTb j) 0 = nI w) (hw6 : w ≤ 6) (ho : x < 0 ∨ nI w ≤ x) : F_71 T j x M = some (0, M) := by
  unfold F_71
  by_cases q : x < 0
  · rw [if_pos q]
  · rw [if_neg q, lv_tb hj, kGd_t, hw, if_pos (ho.resolve_left q)]
set_option maxHeartbeats 4000000 in
theorem tval {T : kT} {M : kM} {j w r k c : Nat} (hj : j < T.1) (hw : gp M (lTb j) 0 = nI w) (hr : gp M (lTb j) 4 = nI r) (hw6 : w ≤ 6) (hr4 : r ≤ 40) (hk : k < r) (hc : c < w) : F_73 T j (nI k) (nI c) M = some (gp M (lTc j) (k * w + c), M) := by
  have hm : k * w ≤ 39 * 6 := Nat.mul_le_mul (by omega) (by omega)
  unfold F_73 F_72
  simp (disch := omega) only [pn_mulL, pn_addL, pn_addR, pn_ltL, pn_ltR, pn_leL, pn_leR, pn_eqL, pn_eqR, pn_subL, pn_z, pn_add, pn_mul, pn_nat, pn_inj, pn_lt, pn_le, pn_neg, kGx_nI, kGx_L, kGd_t, kBd_s, kOpt_s, kOpt_n, kLf_s, kAg_l, kAg_r, kAg_f, if_true, if_false, ite_true, ite_false, eq_self_iff_true, ↓reduceIte, Nat.reduceEqDiff, Nat.reduceLeDiff, Nat.reduceLT, Nat.reduceAdd, Nat.reduceMul, Nat.reduceSub, Int32.reduceLT, Int32.reduceLE, Nat.add_zero, Nat.zero_add, Nat.succ_ne_self, Nat.not_lt_zero, Nat.one_ne_zero, Nat.zero_ne_one, i01, i02, i03, i04, i10, i12, i13, i14, i20, i21, i23, i24, i30, i31, i32, i34, i40, i41, i42, i43, not_true_eq_false, not_false_eq_true, lv_tb, hr]
  rw [if_neg (show ¬ r ≤ k by omega), kBd_s, if_neg (by decide), hasC_in hj hw hw6 hc, kBd_s, if_neg (by decide), hw, pn_mul, pn_add, kGx_nI (by omega) (by omega), pn_nat (by omega)]
set_option maxHeartbeats 4000000 in
theorem c_cell {T : kT} {M : kM} {t k c : Int32} (h : iNv T M) : ∃ x M1 b M2, F_152 T t k c M = some (x, M1) ∧ F_110 T t k c M1 = some (b, M2) ∧ gp M2 lMo 0 = x ∧ (x = 0 → go M2 0 = b.toInt64) ∧ iNv T M2 := by
  have hA := h.1
  have hT := h.2.2.2.1
  have bad : F_10 T t k c M = some (.inl 0, M) → F_110 T t k c M = some (0, sp M lMo 0 1) → ∃ x M1 b M2, F_152 T t k c M = some (x, M1) ∧ F_110 T t k c M1 = some (b, M2) ∧ gp M2 lMo 0 = x ∧ (x = 0 → go M2 0 = b.toInt64) ∧ iNv T M2 := by
    intro e1 e2
    refine ⟨1, M, 0, sp M lMo 0 1, ?_, e2, by simp (disch := omega) only [gp_ne, gpa_ne, gp_sp, gp_sa, upd_eq, upd_ne, gq_sp, gq_sa], fun z => absurd z (by decide), iNv_mo h⟩
    unfold F_152
    rw [e1]; rfl
  have good : ∀ {v : Int32}, F_10 T t k c M = some (.inr v, M) → (∀ X, gp X = gp M → F_110 T t k c X = some (v, sp X lMo 0 0)) → ∃ x M1 b M2, F_152 T t k c M = some (x, M1) ∧ F_110 T t k c M1 = some (b, M2) ∧ gp M2 lMo 0 = x ∧ (x = 0 → go M2 0 = b.toInt64) ∧ iNv T M2 := by
    intro v e1 e2
    refine ⟨0, so M 0 v.toInt64, v, sp (so M 0 v.toInt64) lMo 0 0, ?_, e2 _ rfl, by simp (disch := omega) only [gp_ne, gpa_ne, gp_sp, gp_sa, upd_eq, upd_ne, gq_sp, gq_sa], fun _ => by rw [go_sp, go_so]; exact if_pos rfl, iNv_mo (iNv_so h)⟩
    unfold F_152
    rw [e1]; rfl
  have o1 := hA.1.2
  rcases in_cases t T.1 (by omega) with ⟨j, hj, rfl⟩ | ho
  · obtain ⟨w, r, t1, t2, t3, t4, t5, t6, t7, t8, t9⟩ := hA.2.2.1 j hj
    by_cases qk : k = -1
    · subst qk
      refine good (v := nI r) ?_ (fun X hX => ?_)
      · unfold F_10
        rw [by_in hA hT hj, kBd_s, kOpt_s, if_pos rfl, lv_tb hj, kGd_t, t6]
      · unfold F_110 F_110_44
        rw [isT_in (by rw [hX]; exact o1) hT hj, kBd_s, if_neg (by decide), if_pos rfl, says1, kBd_s, if_neg (by decide), if_pos rfl]
        simp (disch := omega) only [pn_mulL, pn_addL, pn_addR, pn_ltL, pn_ltR, pn_leL, pn_leR, pn_eqL, pn_eqR, pn_subL, pn_z, pn_add, pn_mul, pn_nat, pn_inj, pn_lt, pn_le, pn_neg, kGx_nI, kGx_L, gp_ne, gpa_ne, gp_sp, gp_sa, upd_eq, upd_ne, gq_sp, gq_sa, hX]
        rw [t7]
    · rcases in_cases k r (by omega) with ⟨i, hi, rfl⟩ | hko
      · rcases in_cases c w (by omega) with ⟨d, hd, rfl⟩ | hco
        · refine good (v := gp M (lTc j) (i * w + d)) ?_ (fun X hX => ?_)
          · unfold F_10 F_72
            rw [by_in hA hT hj, kBd_s, kOpt_s, if_neg qk, lv_tb hj, kGd_t, t6, if_neg (by simp (disch := omega) only [pn_mulL, pn_addL, pn_addR, pn_ltL, pn_ltR, pn_leL, pn_leR, pn_eqL, pn_eqR, pn_subL, pn_z, pn_add, pn_mul, pn_nat, pn_inj, pn_lt, pn_le, pn_neg, kGx_nI, kGx_L]; omega), kGd_t, if_neg (by simp (disch := omega) only [pn_mulL, pn_addL, pn_addR, pn_ltL, pn_ltR, pn_leL, pn_leR, pn_eqL, pn_eqR, pn_subL, pn_z, pn_add, pn_mul, pn_nat, pn_inj, pn_lt, pn_le, pn_neg, kGx_nI, kGx_L]; omega), kBd_s, if_neg (by decide), hasC_in hj t4 t2 hd, kBd_s, if_neg (by decide), tval hj t4 t6 t2 t3 hi hd, kBd_s]
          · unfold F_110 F_110_44 F_99
            rw [isT_in (by rw [hX]; exact o1) hT hj, kBd_s, if_neg (by decide), if_neg qk]
            simp (disch := omega) only [pn_mulL, pn_addL, pn_addR, pn_ltL, pn_ltR, pn_leL, pn_leR, pn_eqL, pn_eqR, pn_subL, pn_z, pn_add, pn_mul, pn_nat, pn_inj, pn_lt, pn_le, pn_neg, kGx_nI, kGx_L]
            rw [hX, t7, F95_in hi (by omega), kBd_s, if_neg (by decide), isC_in (by rw [hX]; exact o1) hT hj (by rw [hX]; exact t5) t2 hd, kBd_s, if_neg (by decide), says1, kBd_s, if_neg (by decide), if_neg qk, kBd_s]
            simp (disch := omega) only [pn_mulL, pn_addL, pn_addR, pn_ltL, pn_ltR, pn_leL, pn_leR, pn_eqL, pn_eqR, pn_subL, pn_z, pn_add, pn_mul, pn_nat, pn_inj, pn_lt, pn_le, pn_neg, kGx_nI, kGx_L, gp_ne, gpa_ne, gp_sp, gp_sa, upd_eq, upd_ne, gq_sp, gq_sa]
            rw [hX, t8 i d hi hd]
        · refine bad ?_ ?_
          · unfold F_10 F_72 F_10_54
            rw [by_in hA hT hj, kBd_s, kOpt_s, if_neg qk, lv_tb hj, kGd_t, t6, if_neg (by simp (disch := omega) only [pn_mulL, pn_addL, pn_addR, pn_ltL, pn_ltR, pn_leL, pn_leR, pn_eqL, pn_eqR, pn_subL, pn_z, pn_add, pn_mul, pn_nat, pn_inj, pn_lt, pn_le, pn_neg, kGx_nI, kGx_L]; omega), kGd_t, if_neg (by simp (disch := omega) only [pn_mulL, pn_addL, pn_addR, pn_ltL, pn_ltR, pn_leL, pn_leR, pn_eqL, pn_eqR, pn_subL, pn_z, pn_add, pn_mul, pn_nat, pn_inj, pn_lt, pn_le, pn_neg, kGx_nI, kGx_L]; omega), kBd_s, if_neg (by decide), hasC_out hj t4 t2 hco, kBd_s, if_pos rfl]
          · unfold F_110 F_110_44
            rw [isT_in o1 hT hj, kBd_s, if_neg (by decide), if_neg qk]
            simp (disch := omega) only [pn_mulL, pn_addL, pn_addR, pn_ltL, pn_ltR, pn_leL, pn_leR, pn_eqL, pn_eqR, pn_subL, pn_z, pn_add, pn_mul, pn_nat, pn_inj, pn_lt, pn_le, pn_neg, kGx_nI, kGx_L]
            rw [t7, F95_in hi (by omega), kBd_s, if_neg (by decide), isC_out o1 hT hj t5 t2 hco, kBd_s, if_pos rfl, says0, kBd_s, if_pos rfl]
      · refine bad ?_ ?_
        · unfold F_10 F_72 F_10_54
          rw [by_in hA hT hj, kBd_s, kOpt_s, if_neg qk, lv_tb hj, kGd_t, t6]
          by_cases q : k < 0
          · rw [if_pos q, kBd_s, if_pos rfl]
          · rw [if_neg q, kGd_t, if_pos (hko.resolve_left q), kBd_s, if_pos rfl]
        · unfold F_110 F_110_44
          rw [isT_in o1 hT hj, kBd_s, if_neg (by decide), if_neg qk]
          simp (disch := omega) only [pn_mulL, pn_addL, pn_addR, pn_ltL, pn_ltR, pn_leL, pn_leR, pn_eqL, pn_eqR, pn_subL, pn_z, pn_add, pn_mul, pn_nat, pn_inj, pn_lt, pn_le, pn_neg, kGx_nI, kGx_L]
          rw [t7, F95_out (by omega) hko, kBd_s, if_pos rfl, says0, kBd_s, if_pos rfl]
  · refine bad ?_ ?_
    · unfold F_10
      rw [by_out hA hT ho, kBd_s, kOpt_n]
    · unfold F_110 F_110_44
      rw [isT_out o1 hT ho, kBd_s, if_pos rfl, says0, kBd_s, if_pos rfl]
