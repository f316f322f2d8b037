/-! the class's tables and kept rows -/
set_option maxHeartbeats 4000000 in
theorem cl_has {T : kT} {S : kS} {n j k : Nat} {C : kM} (hS : sOk S n) (hC : sC T S n C) (hj : j < nt S) (hk : k < 2147483648) : F_72 T j (nI k) C = some (if k < tr S j then 1 else 0, C) := by
  have hT := hC.2.1
  have h3 := hC.2.2.2 j hj
  have h4 := hS.2.2.1 j hj
  unfold F_72
  simp (disch := omega) only [pn_mulL, pn_addL, pn_addR, pn_ltL, pn_ltR, pn_leL, pn_leR, pn_eqL, pn_eqR, pn_subL, pn_z, pn_add, pn_mul, pn_nat, pn_inj, pn_lt, pn_le, pn_neg, kGx_nI, kGx_L, kGd_t, kBd_s, kOpt_s, kOpt_n, kLf_s, kAg_l, kAg_r, kAg_f, if_true, if_false, ite_true, ite_false, eq_self_iff_true, ↓reduceIte, Nat.reduceEqDiff, Nat.reduceLeDiff, Nat.reduceLT, Nat.reduceAdd, Nat.reduceMul, Nat.reduceSub, Int32.reduceLT, Int32.reduceLE, Nat.add_zero, Nat.zero_add, Nat.succ_ne_self, Nat.not_lt_zero, Nat.one_ne_zero, Nat.zero_ne_one, i01, i02, i03, i04, i10, i12, i13, i14, i20, i21, i23, i24, i30, i31, i32, i34, i40, i41, i42, i43, not_true_eq_false, not_false_eq_true, lv_tb, h3.2.1]
  by_cases q : k < tr S j
  · rw [if_neg (by omega), if_pos q]
  · rw [if_pos (by omega), if_neg q]
set_option maxHeartbeats 4000000 in
theorem cl_tv {T : kT} {S : kS} {n j k c : Nat} {C : kM} (hS : sOk S n) (hC : sC T S n C) (hj : j < nt S) (hk : k < tr S j) (hc : c < tw S j) : F_73 T j (nI k) (nI c) C = some (ce S j k c, C) := by
  have hT := hC.2.1
  have h3 := hC.2.2.2 j hj
  have h4 := hS.2.2.1 j hj
  have hm : k * tw S j ≤ 39 * 6 := Nat.mul_le_mul (by omega) (by omega)
  unfold F_73 F_71
  rw [cl_has hS hC hj (by omega)]
  simp (disch := omega) only [pn_mulL, pn_addL, pn_addR, pn_ltL, pn_ltR, pn_leL, pn_leR, pn_eqL, pn_eqR, pn_subL, pn_z, pn_add, pn_mul, pn_nat, pn_inj, pn_lt, pn_le, pn_neg, kGx_nI, kGx_L, kGd_t, kBd_s, kOpt_s, kOpt_n, kLf_s, kAg_l, kAg_r, kAg_f, if_true, if_false, ite_true, ite_false, eq_self_iff_true, ↓reduceIte, Nat.reduceEqDiff, Nat.reduceLeDiff, Nat.reduceLT, Nat.reduceAdd, Nat.reduceMul, Nat.reduceSub, Int32.reduceLT, Int32.reduceLE, Nat.add_zero, Nat.zero_add, Nat.succ_ne_self, Nat.not_lt_zero, Nat.one_ne_zero, Nat.zero_ne_one, i01, i02, i03, i04, i10, i12, i13, i14, i20, i21, i23, i24, i30, i31, i32, i34, i40, i41, i42, i43, not_true_eq_false, not_false_eq_true, lv_tb, h3.1]
  rw [if_pos hk, if_neg (by decide), if_neg (show ¬ tw S j ≤ c by omega), kBd_s, if_neg (by decide)]
  have hm2 : k * tw S j + c < 240 := by omega
  rw [h3.1, pn_mul, pn_add, kGx_nI hm2 (by omega), pn_nat (by omega), h3.2.2 k c hk hc]
set_option maxHeartbeats 4000000 in
theorem cl_next {T : kT} {S : kS} {n j c : Nat} {v : Int32} {C : kM} (hS : sOk S n) (hC : sC T S n C) (hj : j < nt S) (hc : c < tw S j) : ∀ m p, p + m = tr S j → F_77_3 T j (nI c) v (nI p) C = some (nI (fst S j c v m p), C) := by
  have hT := hC.2.1
  have h3 := hC.2.2.2 j hj
  have h4 := hS.2.2.1 j hj
  intro m
  induction m with
  | zero =>
    intro p hp
    rw [F_77_3_eq]
    unfold B_77_3
    simp (disch := omega) only [pn_mulL, pn_addL, pn_addR, pn_ltL, pn_ltR, pn_leL, pn_leR, pn_eqL, pn_eqR, pn_subL, pn_z, pn_add, pn_mul, pn_nat, pn_inj, pn_lt, pn_le, pn_neg, kGx_nI, kGx_L, kGd_t, kBd_s, kOpt_s, kOpt_n, kLf_s, kAg_l, kAg_r, kAg_f, if_true, if_false, ite_true, ite_false, eq_self_iff_true, ↓reduceIte, Nat.reduceEqDiff, Nat.reduceLeDiff, Nat.reduceLT, Nat.reduceAdd, Nat.reduceMul, Nat.reduceSub, Int32.reduceLT, Int32.reduceLE, Nat.add_zero, Nat.zero_add, Nat.succ_ne_self, Nat.not_lt_zero, Nat.one_ne_zero, Nat.zero_ne_one, i01, i02, i03, i04, i10, i12, i13, i14, i20, i21, i23, i24, i30, i31, i32, i34, i40, i41, i42, i43, not_true_eq_false, not_false_eq_true, lv_tb, h3.2.1, fst]
    rw [if_pos (by omega), kAg_r, show tr S j = p by omega]
  | succ m ih =>
    intro p hp
    rw [F_77_3_eq]
    unfold B_77_3
    simp (disch := omega) only [pn_mulL, pn_addL, pn_addR, pn_ltL, pn_ltR, pn_leL, pn_leR, pn_eqL, pn_eqR, pn_subL, pn_z, pn_add, pn_mul, pn_nat, pn_inj, pn_lt, pn_le, pn_neg, kGx_nI, kGx_L, kGd_t, kBd_s, kOpt_s, kOpt_n, kLf_s, kAg_l, kAg_r, kAg_f, if_true, if_false, ite_true, ite_false, eq_self_iff_true, ↓reduceIte, Nat.reduceEqDiff, Nat.reduceLeDiff, Nat.reduceLT, Nat.reduceAdd, Nat.reduceMul, Nat.reduceSub, Int32.reduceLT, Int32.reduceLE, Nat.add_zero, Nat.zero_add, Nat.succ_ne_self, Nat.not_lt_zero, Nat.one_ne_zero, Nat.zero_ne_one, i01, i02, i03, i04, i10, i12, i13, i14, i20, i21, i23, i24, i30, i31, i32, i34, i40, i41, i42, i43, not_true_eq_false, not_false_eq_true, lv_tb, h3.2.1, fst]
    rw [if_neg (by omega), cl_tv hS hC hj (by omega) hc, kBd_s]
    by_cases q : ce S j p c = v
    · rw [if_pos q, if_pos q, kAg_r]
    · rw [if_neg q, if_neg q, kAg_l]
      exact ih (p + 1) (by omega)
def tkM (S : kS) (C : kM) (t j k f : Nat) : kM := sp (sa (sp (sp C lRu 0 (nI (f - 1))) lRu 1 (gp C lRu 1 + 1)) (lRw t) (fl (gp C (lRw t)) 0 (tw S j) (fun c => gp C (lTc j) (k * tw S j + c)))) (lTm t) 12 (nI (k + 1))
set_option maxHeartbeats 4000000 in
theorem cl_take {T : kT} {S : kS} {n t j k f : Nat} {C : kM} (hS : sOk S n) (hC : sC T S n C) (ht : t < n) (hj : j < nt S) (hk : k ≤ tr S j) (hf : gp C lRu 0 = nI f) (hf5 : f ≤ 500) : F_52 T (some t) (some j) (nI k) C = some (if k < tr S j then (if f = 0 then (2, C) else (1, tkM S C t j k f)) else (0, C)) := by
  have hT := hC.2.1
  have hT1 := hC.1
  have h3 := hC.2.2.2 j hj
  have h4 := hS.2.2.1 j hj
  have hm : k * tw S j ≤ 40 * 6 := Nat.mul_le_mul (by omega) (by omega)
  unfold F_52
  rw [kOpt_s, cl_has hS hC hj (by omega)]
  simp (disch := omega) only [kGd_t, kBd_s, kOpt_s, kOpt_n, kLf_s, kAg_l, kAg_r, kAg_f, if_true, if_false, ite_true, ite_false, eq_self_iff_true, ↓reduceIte, Nat.reduceEqDiff, Nat.reduceLeDiff, Nat.reduceLT, Nat.reduceAdd, Nat.reduceMul, Nat.reduceSub, Int32.reduceLT, Int32.reduceLE, Nat.add_zero, Nat.zero_add, Nat.succ_ne_self, Nat.not_lt_zero, Nat.one_ne_zero, Nat.zero_ne_one, i01, i02, i03, i04, i10, i12, i13, i14, i20, i21, i23, i24, i30, i31, i32, i34, i40, i41, i42, i43, not_true_eq_false, not_false_eq_true, lv_tb, lv_tm]
  by_cases q : k < tr S j
  · have hm' : k * tw S j ≤ 39 * 6 := Nat.mul_le_mul (by omega) (by omega)
    rw [if_pos q, if_pos q, if_neg (by decide), hf]
    simp (disch := omega) only [pn_mulL, pn_addL, pn_addR, pn_ltL, pn_ltR, pn_leL, pn_leR, pn_eqL, pn_eqR, pn_subL, pn_z, pn_add, pn_mul, pn_nat, pn_inj, pn_lt, pn_le, pn_neg, kGx_nI, kGx_L]
    by_cases q2 : f = 0
    · rw [if_pos q2, if_neg (by omega)]
    · rw [if_neg q2, if_pos (by omega)]
      have hC' : sC T S n (sp (sp C lRu 0 (nI (f - 1))) lRu 1 (gp C lRu 1 + 1)) := sC_sp (by omega) (sC_sp (by omega) hC)
      have r1 : gp (sp C lRu 0 (nI (f - 1))) lRu 1 = gp C lRu 1 := by simp (disch := omega) only [gp_ne, gpa_ne, gp_sp, gp_sa, upd_eq, upd_ne, gq_sp, gq_sa]
      rw [r1]
      have e74 : F_74 T j (nI k) (lRw t) (sp (sp C lRu 0 (nI (f - 1))) lRu 1 (gp C lRu 1 + 1)) = some ((), sa (sp (sp C lRu 0 (nI (f - 1))) lRu 1 (gp C lRu 1 + 1)) (lRw t) (fl (gp C (lRw t)) 0 (tw S j) (fun c => gp C (lTc j) (k * tw S j + c)))) := by
        unfold F_74
        rw [cl_has hS hC' hj (by omega), if_pos q]
        simp (disch := omega) only [kGd_t, kBd_s, kOpt_s, kOpt_n, kLf_s, kAg_l, kAg_r, kAg_f, if_true, if_false, ite_true, ite_false, eq_self_iff_true, ↓reduceIte, Nat.reduceEqDiff, Nat.reduceLeDiff, Nat.reduceLT, Nat.reduceAdd, Nat.reduceMul, Nat.reduceSub, Int32.reduceLT, Int32.reduceLE, Nat.add_zero, Nat.zero_add, Nat.succ_ne_self, Nat.not_lt_zero, Nat.one_ne_zero, Nat.zero_ne_one, i01, i02, i03, i04, i10, i12, i13, i14, i20, i21, i23, i24, i30, i31, i32, i34, i40, i41, i42, i43, not_true_eq_false, not_false_eq_true, lv_tb, lv_rw, gp_ne, gpa_ne, gp_sp, gp_sa, upd_eq, upd_ne, gq_sp, gq_sa, h3.1]
        rw [show kisI (lRw t) = true from rfl, kGd_t, show klen (lRw t) = 12 from rfl, if_neg (by simp (disch := omega) only [pn_mulL, pn_addL, pn_addR, pn_ltL, pn_ltR, pn_leL, pn_leR, pn_eqL, pn_eqR, pn_subL, pn_z, pn_add, pn_mul, pn_nat, pn_inj, pn_lt, pn_le, pn_neg, kGx_nI, kGx_L]; omega), pn_mul, show (0 : Int32) = nI 0 from rfl, kCk_t (by omega) (by omega) (by omega) (by omega), kGd_t, cpy_fl]
        simp (disch := omega) only [pn_mulL, pn_addL, pn_addR, pn_ltL, pn_ltR, pn_leL, pn_leR, pn_eqL, pn_eqR, pn_subL, pn_z, pn_add, pn_mul, pn_nat, pn_inj, pn_lt, pn_le, pn_neg, kGx_nI, kGx_L]
      rw [e74]
      rfl
  · rw [if_neg q, if_neg q, if_pos rfl]
/-- the class's half of kept rows -/
def kc (S : kS) (t m : Nat) (o : Nat → Nat) (C : kM) : Prop := m ≤ 150 ∧ gp C (lKp t) 2 = nI (wd S t) ∧ gp C (lKp t) 3 = nI m ∧ ∀ i, i < m → o i < m ∧ gp C (lKo t) i = nI (o i)
set_option maxHeartbeats 4000000 in
theorem cl_kval {T : kT} {S : kS} {n t m i c : Nat} {o : Nat → Nat} {C : kM} (hS : sOk S n) (hC : sC T S n C) (ht : t < n) (hk : kc S t m o C) (hi : i < m) (hc : c < wd S t) : F_21 T t (nI i) (nI c) C = some (gp C (lKc t) (o i * 12 + c), C) := by
  have hT := hC.1
  have hw := (nk hS ht).1.2.2.1
  obtain ⟨k1, k2, k3, k4⟩ := hk
  have k4 := k4 i hi
  unfold F_21
  simp (disch := omega) only [pn_mulL, pn_addL, pn_addR, pn_ltL, pn_ltR, pn_leL, pn_leR, pn_eqL, pn_eqR, pn_subL, pn_z, pn_add, pn_mul, pn_nat, pn_inj, pn_lt, pn_le, pn_neg, kGx_nI, kGx_L, kGd_t, kBd_s, kOpt_s, kOpt_n, kLf_s, kAg_l, kAg_r, kAg_f, if_true, if_false, ite_true, ite_false, eq_self_iff_true, ↓reduceIte, Nat.reduceEqDiff, Nat.reduceLeDiff, Nat.reduceLT, Nat.reduceAdd, Nat.reduceMul, Nat.reduceSub, Int32.reduceLT, Int32.reduceLE, Nat.add_zero, Nat.zero_add, Nat.succ_ne_self, Nat.not_lt_zero, Nat.one_ne_zero, Nat.zero_ne_one, i01, i02, i03, i04, i10, i12, i13, i14, i20, i21, i23, i24, i30, i31, i32, i34, i40, i41, i42, i43, not_true_eq_false, not_false_eq_true, lv_tm, k2, k3]
  rw [if_neg (by omega), if_neg (by omega), k4.2]
  simp (disch := omega) only [pn_mulL, pn_addL, pn_addR, pn_ltL, pn_ltR, pn_leL, pn_leR, pn_eqL, pn_eqR, pn_subL, pn_z, pn_add, pn_mul, pn_nat, pn_inj, pn_lt, pn_le, pn_neg, kGx_nI, kGx_L]
set_option maxHeartbeats 4000000 in
theorem cl_kset {T : kT} {S : kS} {n t m i c : Nat} {v : Int32} {o : Nat → Nat} {C : kM} (hS : sOk S n) (hC : sC T S n C) (ht : t < n) (hk : kc S t m o C) (hi : i < m) (hc : c < wd S t) : F_22 T t (nI i) (nI c) v C = some ((), sp C (lKc t) (o i * 12 + c) v) := by
  have hT := hC.1
  have hw := (nk hS ht).1.2.2.1
  obtain ⟨k1, k2, k3, k4⟩ := hk
  have k4 := k4 i hi
  unfold F_22
  simp (disch := omega) only [pn_mulL, pn_addL, pn_addR, pn_ltL, pn_ltR, pn_leL, pn_leR, pn_eqL, pn_eqR, pn_subL, pn_z, pn_add, pn_mul, pn_nat, pn_inj, pn_lt, pn_le, pn_neg, kGx_nI, kGx_L, kGd_t, kBd_s, kOpt_s, kOpt_n, kLf_s, kAg_l, kAg_r, kAg_f, if_true, if_false, ite_true, ite_false, eq_self_iff_true, ↓reduceIte, Nat.reduceEqDiff, Nat.reduceLeDiff, Nat.reduceLT, Nat.reduceAdd, Nat.reduceMul, Nat.reduceSub, Int32.reduceLT, Int32.reduceLE, Nat.add_zero, Nat.zero_add, Nat.succ_ne_self, Nat.not_lt_zero, Nat.one_ne_zero, Nat.zero_ne_one, i01, i02, i03, i04, i10, i12, i13, i14, i20, i21, i23, i24, i30, i31, i32, i34, i40, i41, i42, i43, not_true_eq_false, not_false_eq_true, lv_tm, k2, k3]
  rw [if_neg (by omega), if_neg (by omega), k4.2]
  simp (disch := omega) only [pn_mulL, pn_addL, pn_addR, pn_ltL, pn_ltR, pn_leL, pn_leR, pn_eqL, pn_eqR, pn_subL, pn_z, pn_add, pn_mul, pn_nat, pn_inj, pn_lt, pn_le, pn_neg, kGx_nI, kGx_L]
set_option maxHeartbeats 4000000 in
theorem cl_kcopy {T : kT} {S : kS} {n t m i : Nat} {o : Nat → Nat} {C : kM} (hS : sOk S n) (hC : sC T S n C) (ht : t < n) (hk : kc S t m o C) (hi : i < m) : F_23 T t (nI i) (lRw t) C = some ((), sa C (lRw t) (fl (gp C (lRw t)) 0 (wd S t) (fun c => gp C (lKc t) (o i * 12 + c)))) := by
  have hT := hC.1
  have hw := (nk hS ht).1.2.2.1
  obtain ⟨k1, k2, k3, k4⟩ := hk
  have k4 := k4 i hi
  unfold F_23
  simp (disch := omega) only [pn_mulL, pn_addL, pn_addR, pn_ltL, pn_ltR, pn_leL, pn_leR, pn_eqL, pn_eqR, pn_subL, pn_z, pn_add, pn_mul, pn_nat, pn_inj, pn_lt, pn_le, pn_neg, kGx_nI, kGx_L, kGd_t, kBd_s, kOpt_s, kOpt_n, kLf_s, kAg_l, kAg_r, kAg_f, if_true, if_false, ite_true, ite_false, eq_self_iff_true, ↓reduceIte, Nat.reduceEqDiff, Nat.reduceLeDiff, Nat.reduceLT, Nat.reduceAdd, Nat.reduceMul, Nat.reduceSub, Int32.reduceLT, Int32.reduceLE, Nat.add_zero, Nat.zero_add, Nat.succ_ne_self, Nat.not_lt_zero, Nat.one_ne_zero, Nat.zero_ne_one, i01, i02, i03, i04, i10, i12, i13, i14, i20, i21, i23, i24, i30, i31, i32, i34, i40, i41, i42, i43, not_true_eq_false, not_false_eq_true, lv_tm, lv_rw, k2, k3]
  rw [if_neg (by omega), show kisI (lRw t) = true from rfl, kGd_t, show klen (lRw t) = 12 from rfl, if_neg (by simp (disch := omega) only [pn_mulL, pn_addL, pn_addR, pn_ltL, pn_ltR, pn_leL, pn_leR, pn_eqL, pn_eqR, pn_subL, pn_z, pn_add, pn_mul, pn_nat, pn_inj, pn_lt, pn_le, pn_neg, kGx_nI, kGx_L]; omega), k4.2, pn_mulL, show (0 : Int32) = nI 0 from rfl, kCk_t (by omega) (by omega) (by omega) (by omega), kGd_t, cpy_fl]
  simp (disch := omega) only [pn_mulL, pn_addL, pn_addR, pn_ltL, pn_ltR, pn_leL, pn_leR, pn_eqL, pn_eqR, pn_subL, pn_z, pn_add, pn_mul, pn_nat, pn_inj, pn_lt, pn_le, pn_neg, kGx_nI, kGx_L]
def adM (S : kS) (C : kM) (t m : Nat) : kM := sp (sp (sa C (lKc t) (fl (gp C (lKc t)) (m * 12) (wd S t) (fun c => gp C (lRw t) c))) (lKo t) m (nI m)) (lKp t) 3 (nI (m + 1))
set_option maxHeartbeats 4000000 in
theorem cl_add {T : kT} {S : kS} {n t m : Nat} {o : Nat → Nat} {C : kM} (hS : sOk S n) (hC : sC T S n C) (ht : t < n) (hk : kc S t m o C) : F_24 T t (lRw t) C = some (if m < 150 then (1, adM S C t m) else (0, C)) := by
  have hT := hC.1
  have hw := (nk hS ht).1.2.2.1
  obtain ⟨k1, k2, k3, k4⟩ := hk
  unfold F_24
  simp (disch := omega) only [pn_mulL, pn_addL, pn_addR, pn_ltL, pn_ltR, pn_leL, pn_leR, pn_eqL, pn_eqR, pn_subL, pn_z, pn_add, pn_mul, pn_nat, pn_inj, pn_lt, pn_le, pn_neg, kGx_nI, kGx_L, kGd_t, kBd_s, kOpt_s, kOpt_n, kLf_s, kAg_l, kAg_r, kAg_f, if_true, if_false, ite_true, ite_false, eq_self_iff_true, ↓reduceIte, Nat.reduceEqDiff, Nat.reduceLeDiff, Nat.reduceLT, Nat.reduceAdd, Nat.reduceMul, Nat.reduceSub, Int32.reduceLT, Int32.reduceLE, Nat.add_zero, Nat.zero_add, Nat.succ_ne_self, Nat.not_lt_zero, Nat.one_ne_zero, Nat.zero_ne_one, i01, i02, i03, i04, i10, i12, i13, i14, i20, i21, i23, i24, i30, i31, i32, i34, i40, i41, i42, i43, not_true_eq_false, not_false_eq_true, lv_tm, lv_rw, gp_ne, gpa_ne, gp_sp, gp_sa, upd_eq, upd_ne, gq_sp, gq_sa, k2, k3]
  by_cases q : m < 150
  · rw [if_neg (by omega), show kisI (lRw t) = true from rfl, kGd_t, show klen (lRw t) = 12 from rfl, if_pos (by simp (disch := omega) only [pn_mulL, pn_addL, pn_addR, pn_ltL, pn_ltR, pn_leL, pn_leR, pn_eqL, pn_eqR, pn_subL, pn_z, pn_add, pn_mul, pn_nat, pn_inj, pn_lt, pn_le, pn_neg, kGx_nI, kGx_L]; omega), show (0 : Int32) = nI 0 from rfl, kCk_t (by omega) (by omega) (by omega) (by omega), kGd_t, cpy_fl, if_pos q]
    unfold adM
    simp only [Nat.zero_add, pn_z, pn_nat (show m < 2147483648 by omega), pn_nat (show 0 < 2147483648 by omega), pn_nat (show m * 12 < 2147483648 by omega), pn_nat (show wd S t < 2147483648 by omega)]
  · rw [if_pos (by omega), if_neg q]
set_option maxHeartbeats 4000000 in
theorem kc_ad {S : kS} {n t m : Nat} {o : Nat → Nat} {C : kM} (hk : kc S t m o C) (hm : m < 150) : kc S t (m + 1) (fun i => if i = m then m else o i) (adM S C t m) := by
  obtain ⟨k1, k2, k3, k4⟩ := hk
  unfold kc adM
  simp (disch := omega) only [gp_ne, gpa_ne, gp_sp, gp_sa, upd_eq, upd_ne, gq_sp, gq_sa]
  refine ⟨by omega, k2, trivial, fun i hi => ?_⟩
  by_cases q : i = m
  · rw [q]; simp (disch := omega) only [kGd_t, kBd_s, kOpt_s, kOpt_n, kLf_s, kAg_l, kAg_r, kAg_f, if_true, if_false, ite_true, ite_false, eq_self_iff_true, ↓reduceIte, Nat.reduceEqDiff, Nat.reduceLeDiff, Nat.reduceLT, Nat.reduceAdd, Nat.reduceMul, Nat.reduceSub, Int32.reduceLT, Int32.reduceLE, Nat.add_zero, Nat.zero_add, Nat.succ_ne_self, Nat.not_lt_zero, Nat.one_ne_zero, Nat.zero_ne_one, i01, i02, i03, i04, i10, i12, i13, i14, i20, i21, i23, i24, i30, i31, i32, i34, i40, i41, i42, i43, not_true_eq_false, not_false_eq_true, gp_ne, gpa_ne, gp_sp, gp_sa, upd_eq, upd_ne, gq_sp, gq_sa]; exact ⟨by omega, trivial⟩
  · simp (disch := omega) only [gp_ne, gpa_ne, gp_sp, gp_sa, upd_eq, upd_ne, gq_sp, gq_sa, if_neg q]
    have := k4 i (by omega)
    exact ⟨by omega, this.2⟩
def hoB (S : kS) (C : kM) (t : Nat) (o : Nat → Nat) (i : Nat) : Bool := alB (fun c => decide (gp C (lKc t) (o i * 12 + c) = gp C (lRw t) c)) (wd S t) 0
set_option maxHeartbeats 4000000 in
theorem cl_isat {T : kT} {S : kS} {n t m i : Nat} {o : Nat → Nat} {C : kM} (hS : sOk S n) (hC : sC T S n C) (ht : t < n) (hk : kc S t m o C) (hi : i < m) : F_28 T t (nI i) (lRw t) C = some (cond (hoB S C t o i) 1 0, C) := by
  have hT := hC.1
  have hw := (nk hS ht).1.2.2.1
  obtain ⟨k1, k2, k3, k4⟩ := hk
  have k4 := k4 i hi
  have key : ∀ k c, c + k = wd S t → F_28_36 T t (lRw t) (nI (o i * 12)) (nI c) C = some (cond (alB (fun c => decide (gp C (lKc t) (o i * 12 + c) = gp C (lRw t) c)) k c) 1 0, C) := by
    intro k
    induction k with
    | zero =>
      intro c hc
      rw [F_28_36_eq]
      unfold B_28_36
      simp (disch := omega) only [pn_mulL, pn_addL, pn_addR, pn_ltL, pn_ltR, pn_leL, pn_leR, pn_eqL, pn_eqR, pn_subL, pn_z, pn_add, pn_mul, pn_nat, pn_inj, pn_lt, pn_le, pn_neg, kGx_nI, kGx_L, kGd_t, kBd_s, kOpt_s, kOpt_n, kLf_s, kAg_l, kAg_r, kAg_f, if_true, if_false, ite_true, ite_false, eq_self_iff_true, ↓reduceIte, Nat.reduceEqDiff, Nat.reduceLeDiff, Nat.reduceLT, Nat.reduceAdd, Nat.reduceMul, Nat.reduceSub, Int32.reduceLT, Int32.reduceLE, Nat.add_zero, Nat.zero_add, Nat.succ_ne_self, Nat.not_lt_zero, Nat.one_ne_zero, Nat.zero_ne_one, i01, i02, i03, i04, i10, i12, i13, i14, i20, i21, i23, i24, i30, i31, i32, i34, i40, i41, i42, i43, not_true_eq_false, not_false_eq_true, lv_tm, k2]
      rw [if_pos (by omega), kAg_r]; rfl
    | succ k ih =>
      intro c hc
      rw [F_28_36_eq]
      unfold B_28_36
      rw [show klen (lRw t) = 12 from rfl, show kisI (lRw t) = true from rfl]
      simp (disch := omega) only [pn_mulL, pn_addL, pn_addR, pn_ltL, pn_ltR, pn_leL, pn_leR, pn_eqL, pn_eqR, pn_subL, pn_z, pn_add, pn_mul, pn_nat, pn_inj, pn_lt, pn_le, pn_neg, kGx_nI, kGx_L, kGd_t, kBd_s, kOpt_s, kOpt_n, kLf_s, kAg_l, kAg_r, kAg_f, if_true, if_false, ite_true, ite_false, eq_self_iff_true, ↓reduceIte, Nat.reduceEqDiff, Nat.reduceLeDiff, Nat.reduceLT, Nat.reduceAdd, Nat.reduceMul, Nat.reduceSub, Int32.reduceLT, Int32.reduceLE, Nat.add_zero, Nat.zero_add, Nat.succ_ne_self, Nat.not_lt_zero, Nat.one_ne_zero, Nat.zero_ne_one, i01, i02, i03, i04, i10, i12, i13, i14, i20, i21, i23, i24, i30, i31, i32, i34, i40, i41, i42, i43, not_true_eq_false, not_false_eq_true, lv_tm, lv_rw, k2, alB]
      rw [if_neg (by omega)]
      by_cases q : gp C (lKc t) (o i * 12 + c) = gp C (lRw t) c
      · rw [if_pos q, kAg_l, decide_eq_true q, Bool.true_and]
        exact ih (c + 1) (by omega)
      · rw [if_neg q, kAg_r, decide_eq_false q, Bool.false_and]; rfl
  unfold F_28
  rw [show klen (lRw t) = 12 from rfl, show kisI (lRw t) = true from rfl]
  simp (disch := omega) only [pn_mulL, pn_addL, pn_addR, pn_ltL, pn_ltR, pn_leL, pn_leR, pn_eqL, pn_eqR, pn_subL, pn_z, pn_add, pn_mul, pn_nat, pn_inj, pn_lt, pn_le, pn_neg, kGx_nI, kGx_L, kGd_t, kBd_s, kOpt_s, kOpt_n, kLf_s, kAg_l, kAg_r, kAg_f, if_true, if_false, ite_true, ite_false, eq_self_iff_true, ↓reduceIte, Nat.reduceEqDiff, Nat.reduceLeDiff, Nat.reduceLT, Nat.reduceAdd, Nat.reduceMul, Nat.reduceSub, Int32.reduceLT, Int32.reduceLE, Nat.add_zero, Nat.zero_add, Nat.succ_ne_self, Nat.not_lt_zero, Nat.one_ne_zero, Nat.zero_ne_one, i01, i02, i03, i04, i10, i12, i13, i14, i20, i21, i23, i24, i30, i31, i32, i34, i40, i41, i42, i43, not_true_eq_false, not_false_eq_true, lv_tm, lv_rw, k2, k3, k4.2]
  rw [if_neg (by omega), if_pos (by omega)]
  exact key _ 0 (by omega)
set_option maxHeartbeats 4000000 in
theorem cl_holds {T : kT} {S : kS} {n t m : Nat} {o : Nat → Nat} {C : kM} (hS : sOk S n) (hC : sC T S n C) (ht : t < n) (hk : kc S t m o C) : F_27 T t (lRw t) C = some (cond (exB (hoB S C t o) m 0) 1 0, C) := by
  have hT := hC.1
  have hk' := hk
  obtain ⟨k1, k2, k3, k4⟩ := hk'
  have key : ∀ k i, i + k = m → F_27_2 T t (lRw t) (nI i) C = some (cond (exB (hoB S C t o) k i) 1 0, C) := by
    intro k
    induction k with
    | zero =>
      intro i hi
      rw [F_27_2_eq]
      unfold B_27_2
      simp (disch := omega) only [pn_mulL, pn_addL, pn_addR, pn_ltL, pn_ltR, pn_leL, pn_leR, pn_eqL, pn_eqR, pn_subL, pn_z, pn_add, pn_mul, pn_nat, pn_inj, pn_lt, pn_le, pn_neg, kGx_nI, kGx_L, kGd_t, kBd_s, kOpt_s, kOpt_n, kLf_s, kAg_l, kAg_r, kAg_f, if_true, if_false, ite_true, ite_false, eq_self_iff_true, ↓reduceIte, Nat.reduceEqDiff, Nat.reduceLeDiff, Nat.reduceLT, Nat.reduceAdd, Nat.reduceMul, Nat.reduceSub, Int32.reduceLT, Int32.reduceLE, Nat.add_zero, Nat.zero_add, Nat.succ_ne_self, Nat.not_lt_zero, Nat.one_ne_zero, Nat.zero_ne_one, i01, i02, i03, i04, i10, i12, i13, i14, i20, i21, i23, i24, i30, i31, i32, i34, i40, i41, i42, i43, not_true_eq_false, not_false_eq_true, lv_tm, k3]
      rw [if_pos (by omega), kAg_r]; rfl
    | succ k ih =>
      intro i hi
      rw [F_27_2_eq]
      unfold B_27_2
      simp (disch := omega) only [pn_mulL, pn_addL, pn_addR, pn_ltL, pn_ltR, pn_leL, pn_leR, pn_eqL, pn_eqR, pn_subL, pn_z, pn_add, pn_mul, pn_nat, pn_inj, pn_lt, pn_le, pn_neg, kGx_nI, kGx_L, kGd_t, kBd_s, kOpt_s, kOpt_n, kLf_s, kAg_l, kAg_r, kAg_f, if_true, if_false, ite_true, ite_false, eq_self_iff_true, ↓reduceIte, Nat.reduceEqDiff, Nat.reduceLeDiff, Nat.reduceLT, Nat.reduceAdd, Nat.reduceMul, Nat.reduceSub, Int32.reduceLT, Int32.reduceLE, Nat.add_zero, Nat.zero_add, Nat.succ_ne_self, Nat.not_lt_zero, Nat.one_ne_zero, Nat.zero_ne_one, i01, i02, i03, i04, i10, i12, i13, i14, i20, i21, i23, i24, i30, i31, i32, i34, i40, i41, i42, i43, not_true_eq_false, not_false_eq_true, lv_tm, k3, exB]
      rw [if_neg (by omega), cl_isat hS hC ht hk (by omega), kBd_s]
      cases q : hoB S C t o i with
      | true => rw [cond_true, if_neg (by decide), kAg_r]; rfl
      | false => rw [cond_false, if_pos rfl, kAg_l, Bool.false_or]; exact ih (i + 1) (by omega)
  exact key m 0 (by omega)
set_option maxHeartbeats 4000000 in
theorem cl_find {T : kT} {S : kS} {n t m : Nat} {o : Nat → Nat} {v : Int32} {C : kM} (hS : sOk S n) (hC : sC T S n C) (ht : t < n) (hk : kc S t m o C) : F_29 T t v C = some (nI (fiB (fun i => decide (gp C (lKc t) (o i * 12 + 0) = v)) m 0), C) := by
  have hT := hC.1
  obtain ⟨k1, k2, k3, k4⟩ := hk
  have key : ∀ k i, i + k = m → F_29_2 T t v (nI i) C = some (nI (fiB (fun i => decide (gp C (lKc t) (o i * 12 + 0) = v)) k i), C) := by
    intro k
    induction k with
    | zero =>
      intro i hi
      rw [F_29_2_eq]
      unfold B_29_2
      simp (disch := omega) only [pn_mulL, pn_addL, pn_addR, pn_ltL, pn_ltR, pn_leL, pn_leR, pn_eqL, pn_eqR, pn_subL, pn_z, pn_add, pn_mul, pn_nat, pn_inj, pn_lt, pn_le, pn_neg, kGx_nI, kGx_L, kGd_t, kBd_s, kOpt_s, kOpt_n, kLf_s, kAg_l, kAg_r, kAg_f, if_true, if_false, ite_true, ite_false, eq_self_iff_true, ↓reduceIte, Nat.reduceEqDiff, Nat.reduceLeDiff, Nat.reduceLT, Nat.reduceAdd, Nat.reduceMul, Nat.reduceSub, Int32.reduceLT, Int32.reduceLE, Nat.add_zero, Nat.zero_add, Nat.succ_ne_self, Nat.not_lt_zero, Nat.one_ne_zero, Nat.zero_ne_one, i01, i02, i03, i04, i10, i12, i13, i14, i20, i21, i23, i24, i30, i31, i32, i34, i40, i41, i42, i43, not_true_eq_false, not_false_eq_true, lv_tm, k3]
      rw [if_pos (by omega), kAg_r, fiB, show m = i by omega]
    | succ k ih =>
      intro i hi
      have k4 := k4 i (by omega)
      rw [F_29_2_eq]
      unfold B_29_2
      simp (disch := omega) only [pn_mulL, pn_addL, pn_addR, pn_ltL, pn_ltR, pn_leL, pn_leR, pn_eqL, pn_eqR, pn_subL, pn_z, pn_add, pn_mul, pn_nat, pn_inj, pn_lt, pn_le, pn_neg, kGx_nI, kGx_L, kGd_t, kBd_s, kOpt_s, kOpt_n, kLf_s, kAg_l, kAg_r, kAg_f, if_true, if_false, ite_true, ite_false, eq_self_iff_true, ↓reduceIte, Nat.reduceEqDiff, Nat.reduceLeDiff, Nat.reduceLT, Nat.reduceAdd, Nat.reduceMul, Nat.reduceSub, Int32.reduceLT, Int32.reduceLE, Nat.add_zero, Nat.zero_add, Nat.succ_ne_self, Nat.not_lt_zero, Nat.one_ne_zero, Nat.zero_ne_one, i01, i02, i03, i04, i10, i12, i13, i14, i20, i21, i23, i24, i30, i31, i32, i34, i40, i41, i42, i43, not_true_eq_false, not_false_eq_true, lv_tm, k3, k4.2]
      rw [if_neg (by omega), fiB]
      by_cases q : gp C (lKc t) (o i * 12) = v
      · rw [if_pos q, kAg_r, decide_eq_true q, cond_true]
      · rw [if_neg q, kAg_l, decide_eq_false q, cond_false]
        exact ih (i + 1) (by omega)
  exact key m 0 (by omega)
/-- the order when the new row stands at k -/
def odr (g : Nat → Int32) (m k : Nat) : Nat → Int32 := fun i => if i = k then nI m else if k < i ∧ i ≤ m then g (i - 1) else g i
def csq (S : kS) (C : kM) (t m : Nat) (o : Nat → Nat) : Nat := ips (fun i => ltB (hw S t) (gp C (lKc t) (o i * 12 + ch S t)) (gp C (lRw t) (ch S t))) m
def csM (S : kS) (C : kM) (t m q : Nat) : kM := sa (adM S C t m) (lKo t) (odr (gp C (lKo t)) m q)
set_option maxHeartbeats 4000000 in
theorem kc_cs {S : kS} {n t m q : Nat} {o : Nat → Nat} {C : kM} (hk : kc S t m o C) (hm : m < 150) (hq : q ≤ m) : kc S t (m + 1) (fun i => if i = q then m else if q < i then o (i - 1) else o i) (csM S C t m q) := by
  obtain ⟨k1, k2, k3, k4⟩ := hk
  unfold kc csM adM
  simp (disch := omega) only [gp_ne, gpa_ne, gp_sp, gp_sa, upd_eq, upd_ne, gq_sp, gq_sa]
  refine ⟨by omega, k2, trivial, fun i hi => ?_⟩
  unfold odr
  by_cases q1 : i = q
  · rw [if_pos q1, if_pos q1]; exact ⟨by omega, rfl⟩
  · rw [if_neg q1, if_neg q1]
    by_cases q2 : q < i
    · rw [if_pos q2, if_pos (by omega)]
      have := k4 (i - 1) (by omega)
      exact ⟨by omega, this.2⟩
    · rw [if_neg q2, if_neg (by omega)]
      have := k4 i (by omega)
      exact ⟨by omega, this.2⟩
set_option maxHeartbeats 4000000 in
theorem cl_sorted {T : kT} {S : kS} {n t m : Nat} {o : Nat → Nat} {C : kM} (hS : sOk S n) (hC : sC T S n C) (ht : t < n) (h7 : kd S t = 7) (hk : kc S t m o C) : F_25 T t (lRw t) (nI (ch S t)) (nI (hw S t)) C = some (if m < 150 then (1, csM S C t m (csq S C t m o)) else (0, C)) := by
  have hT := hC.1
  have hn := nk hS ht
  have hs := hn.2.2.2.2.2.2.2.2.2.2.2.1 h7
  have hww := hn.1.2.2.1
  unfold F_25
  rw [cl_add hS hC ht hk]
  simp (disch := omega) only [lv_tm, kGd_t, kBd_s, kOpt_s, kOpt_n, kLf_s, kAg_l, kAg_r, kAg_f, if_true, if_false, ite_true, ite_false, eq_self_iff_true, ↓reduceIte, Nat.reduceEqDiff, Nat.reduceLeDiff, Nat.reduceLT, Nat.reduceAdd, Nat.reduceMul, Nat.reduceSub, Int32.reduceLT, Int32.reduceLE, Nat.add_zero, Nat.zero_add, Nat.succ_ne_self, Nat.not_lt_zero, Nat.one_ne_zero, Nat.zero_ne_one, i01, i02, i03, i04, i10, i12, i13, i14, i20, i21, i23, i24, i30, i31, i32, i34, i40, i41, i42, i43, not_true_eq_false, not_false_eq_true]
  by_cases q : m < 150
  · rw [if_pos q, if_pos q, kBd_s, if_neg (by decide)]
    have g3 : gp (adM S C t m) (lKp t) 3 = nI (m + 1) := by unfold adM; simp (disch := omega) only [gp_ne, gpa_ne, gp_sp, gp_sa, upd_eq, upd_ne, gq_sp, gq_sa]
    rw [g3]
    simp (disch := omega) only [pn_mulL, pn_addL, pn_addR, pn_ltL, pn_ltR, pn_leL, pn_leR, pn_eqL, pn_eqR, pn_subL, pn_z, pn_add, pn_mul, pn_nat, pn_inj, pn_lt, pn_le, pn_neg, kGx_nI, kGx_L]
    have key : ∀ k, k ≤ m → F_25_18 T t (nI (ch S t)) (nI (hw S t)) (nI k) (csM S C t m k) = some (1, csM S C t m (ips (fun i => ltB (hw S t) (gp C (lKc t) (o i * 12 + ch S t)) (gp C (lRw t) (ch S t))) k)) := by
      intro k
      induction k with
      | zero =>
        intro _
        rw [F_25_18_eq]
        unfold B_25_18
        simp (disch := omega) only [pn_mulL, pn_addL, pn_addR, pn_ltL, pn_ltR, pn_leL, pn_leR, pn_eqL, pn_eqR, pn_subL, pn_z, pn_add, pn_mul, pn_nat, pn_inj, pn_lt, pn_le, pn_neg, kGx_nI, kGx_L, ips]
        rw [if_pos (by omega), kAg_r]
      | succ k ih =>
        intro hkm
        have hk2 := kc_cs (n := n) hk q hkm
        have hC2 : sC T S n (csM S C t m (k + 1)) := sC_sa (by omega) (sC_sp (by omega) (sC_sp (by omega) (sC_sa (by omega) hC)))
        have v1 := cl_kval (T := T) (i := k) (c := ch S t) hS hC2 ht hk2 (by omega) (by omega)
        have v2 := cl_kval (T := T) (i := k + 1) (c := ch S t) hS hC2 ht hk2 (by omega) (by omega)
        have ok := hk.2.2.2 k (by omega)
        simp only [if_neg (show ¬ k = k + 1 by omega), if_neg (show ¬ k + 1 < k by omega)] at v1
        simp only [if_true] at v2
        have r1 : gp (csM S C t m (k + 1)) (lKc t) (o k * 12 + ch S t) = gp C (lKc t) (o k * 12 + ch S t) := by
          unfold csM adM
          simp (disch := omega) only [gp_ne, gpa_ne, gp_sp, gp_sa, upd_eq, upd_ne, gq_sp, gq_sa]
          exact fl_out (by omega)
        have r2 : gp (csM S C t m (k + 1)) (lKc t) (m * 12 + ch S t) = gp C (lRw t) (ch S t) := by
          unfold csM adM
          simp (disch := omega) only [gp_ne, gpa_ne, gp_sp, gp_sa, upd_eq, upd_ne, gq_sp, gq_sa]
          exact fl_in (by omega)
        rw [r1] at v1
        rw [r2] at v2
        have o1 : gp (csM S C t m (k + 1)) (lKo t) (k + 1) = nI m := by unfold csM; rw [gp_sa]; unfold odr; rw [if_pos rfl]
        have o2 : gp (csM S C t m (k + 1)) (lKo t) k = gp C (lKo t) k := by unfold csM; rw [gp_sa]; unfold odr; rw [if_neg (by omega), if_neg (by omega)]
        have fin : sp (sp (csM S C t m (k + 1)) (lKo t) (k + 1) (gp C (lKo t) k)) (lKo t) k (nI m) = csM S C t m k := by
          unfold csM sp
          rw [sa_sa, sa_sa, gp_sa, gp_sa]
          congr 1
          funext i
          unfold upd
          by_cases i1 : i = k
          · unfold odr; rw [if_pos i1, if_pos i1]
          · unfold odr; rw [if_neg i1, if_neg i1]
            by_cases i2 : i = k + 1
            · rw [if_pos i2, if_pos (by omega), show i - 1 = k by omega]
            · rw [if_neg i2]
              show (if i = k + 1 then nI m else if k + 1 < i ∧ i ≤ m then gp C (lKo t) (i - 1) else gp C (lKo t) i) = _
              rw [if_neg i2]
              by_cases i3 : k + 1 < i ∧ i ≤ m
              · rw [if_pos i3, if_pos (by omega)]
              · rw [if_neg i3, if_neg (by omega)]
        rw [F_25_18_eq]
        unfold B_25_18 F_26
        simp (disch := omega) only [pn_mulL, pn_addL, pn_addR, pn_ltL, pn_ltR, pn_leL, pn_leR, pn_eqL, pn_eqR, pn_subL, pn_z, pn_add, pn_mul, pn_nat, pn_inj, pn_lt, pn_le, pn_neg, kGx_nI, kGx_L, lv_tm, kGd_t, kBd_s, kOpt_s, kOpt_n, kLf_s, kAg_l, kAg_r, kAg_f, if_true, if_false, ite_true, ite_false, eq_self_iff_true, ↓reduceIte, Nat.reduceEqDiff, Nat.reduceLeDiff, Nat.reduceLT, Nat.reduceAdd, Nat.reduceMul, Nat.reduceSub, Int32.reduceLT, Int32.reduceLE, Nat.add_zero, Nat.zero_add, Nat.succ_ne_self, Nat.not_lt_zero, Nat.one_ne_zero, Nat.zero_ne_one, i01, i02, i03, i04, i10, i12, i13, i14, i20, i21, i23, i24, i30, i31, i32, i34, i40, i41, i42, i43, not_true_eq_false, not_false_eq_true]
        rw [show k + 1 - 1 = k by omega, v1, kBd_s, v2, kBd_s, ips]
        generalize hy : gp C (lKc t) (o k * 12 + ch S t) = y at *
        generalize hx : gp C (lRw t) (ch S t) = x at *
        unfold ltB
        by_cases c1 : hw S t = 1
        · simp only [if_pos c1]
          by_cases z : x ≤ y
          · rw [if_pos z, kBd_s, if_pos rfl, kAg_r, decide_eq_false (fun h => h z), cond_false]
          · rw [if_neg z, kBd_s, if_neg (by decide), kAg_l, decide_eq_true z, cond_true, o1, o2, pn_m1 (by omega), fin]
            have := ih (by omega)
            unfold ltB at this
            simp only [if_pos c1] at this
            exact this
        · simp only [if_neg c1]
          by_cases z : y ≤ x
          · rw [if_pos z, kBd_s, if_pos rfl, kAg_r, decide_eq_false (fun h => h z), cond_false]
          · rw [if_neg z, kBd_s, if_neg (by decide), kAg_l, decide_eq_true z, cond_true, o1, o2, pn_m1 (by omega), fin]
            have := ih (by omega)
            unfold ltB at this
            simp only [if_neg c1] at this
            exact this
    have st : csM S C t m m = adM S C t m := by
      unfold csM
      have : odr (gp C (lKo t)) m m = gp (adM S C t m) (lKo t) := by
        unfold adM odr
        simp (disch := omega) only [gp_ne, gpa_ne, gp_sp, gp_sa, upd_eq, upd_ne, gq_sp, gq_sa]
        funext i
        unfold upd
        by_cases i1 : i = m
        · rw [if_pos i1, if_pos i1]
        · rw [if_neg i1, if_neg i1, if_neg (by omega)]
      rw [this, sa_id]
    have := key m (Nat.le_refl _)
    rw [st] at this
    exact this
  · rw [if_neg q, if_neg q, kBd_s, if_pos rfl]
