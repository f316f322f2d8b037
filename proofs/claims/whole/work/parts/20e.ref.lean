set_option maxHeartbeats 4000000 in
theorem sp_id (M : kM) (l : kLb) (k : Nat) : sp M l k (gp M l k) = M := by
  unfold sp
  have : upd (gp M l) k (gp M l k) = gp M l := by
    funext j
    by_cases h : j = k
    · rw [h, upd_eq]
    · rw [upd_ne h]
  rw [this, sa_id]
set_option maxHeartbeats 4000000 in
theorem ra_pass {T : kT} {S : kS} {n t : Nat} {M : kM} (hS : sOk S n) (hR : sR S n M) (ht : t < n) (h0 : kd S t ≠ 0) (hx : ix S t = 0) (h8 : kd S t = 8 → gp M (lMa 26) t < vl S t) (h7 : ¬ kd S t = 1 → ¬ kd S t = 2 → ¬ kd S t = 6 → ¬ kd S t = 8 → gp M (lMa 39) t = 0) : F_128 T (nI t) M = some (1, ak M (t + 1)) := by
  have h1 := hS.1
  have hn := nk hS ht
  have a1 := hn.1.1
  have hb := hn.2.2.1 h0
  have h3 := hR.1 t ht
  have f1 := h3.2.2.2.2.1 h0
  have e66 : F_128_166 T (nI t) M = some (1, ak M (t + 1)) := by
    unfold F_128_166 F_128_172
    simp (disch := omega) only [pn_mulL, pn_addL, pn_addR, pn_ltL, pn_ltR, pn_leL, pn_leR, pn_eqL, pn_eqR, pn_subL, pn_z, pn_add, pn_mul, pn_nat, pn_inj, pn_lt, pn_le, pn_neg, kGx_nI, kGx_L, f1, rf_ask, kGd_t, kBd_s, kOpt_s, kOpt_n, kLf_s, kAg_l, kAg_r, kAg_f, if_true, if_false, ite_true, ite_false, eq_self_iff_true, ↓reduceIte, Nat.reduceEqDiff, Nat.reduceLeDiff, Nat.reduceLT, Nat.reduceAdd, Nat.reduceMul, Nat.reduceSub, Int32.reduceLT, Int32.reduceLE, Nat.add_zero, Nat.zero_add, Nat.succ_ne_self, Nat.not_lt_zero, Nat.one_ne_zero, Nat.zero_ne_one, i01, i02, i03, i04, i10, i12, i13, i14, i20, i21, i23, i24, i30, i31, i32, i34, i40, i41, i42, i43, not_true_eq_false, not_false_eq_true]
  have e74 : F_128_74 T (nI t) (nI (kd S t)) M = some (1, ak M (t + 1)) := by
    have e92 : (kd S t = 7 ∨ kd S t = 9 ∨ kd S t = 10) → F_128_92 T (nI t) (nI (kd S t)) M = some (1, ak M (t + 1)) := by
      intro q
      unfold F_128_92
      simp (disch := omega) only [pn_mulL, pn_addL, pn_addR, pn_ltL, pn_ltR, pn_leL, pn_leR, pn_eqL, pn_eqR, pn_subL, pn_z, pn_add, pn_mul, pn_nat, pn_inj, pn_lt, pn_le, pn_neg, kGx_nI, kGx_L, f1, rf_ask, kGd_t, kBd_s, kOpt_s, kOpt_n, kLf_s, kAg_l, kAg_r, kAg_f, if_true, if_false, ite_true, ite_false, eq_self_iff_true, ↓reduceIte, Nat.reduceEqDiff, Nat.reduceLeDiff, Nat.reduceLT, Nat.reduceAdd, Nat.reduceMul, Nat.reduceSub, Int32.reduceLT, Int32.reduceLE, Nat.add_zero, Nat.zero_add, Nat.succ_ne_self, Nat.not_lt_zero, Nat.one_ne_zero, Nat.zero_ne_one, i01, i02, i03, i04, i10, i12, i13, i14, i20, i21, i23, i24, i30, i31, i32, i34, i40, i41, i42, i43, not_true_eq_false, not_false_eq_true, h7 (by omega) (by omega) (by omega) (by omega)]
    unfold F_128_74
    simp (disch := omega) only [pn_mulL, pn_addL, pn_addR, pn_ltL, pn_ltR, pn_leL, pn_leR, pn_eqL, pn_eqR, pn_subL, pn_z, pn_add, pn_mul, pn_nat, pn_inj, pn_lt, pn_le, pn_neg, kGx_nI, kGx_L]
    by_cases c7 : kd S t = 7
    · rw [if_pos c7, e92 (by omega)]
    rw [if_neg c7]
    by_cases c10 : kd S t = 10
    · rw [if_pos c10, e92 (by omega)]
    rw [if_neg c10]
    by_cases c9 : kd S t = 9
    · rw [if_pos c9, e92 (by omega)]
    rw [if_neg c9]
    by_cases c3 : kd S t < 3
    · rw [if_pos c3, e66]
    rw [if_neg c3]
    by_cases c5 : 5 < kd S t
    · rw [if_pos c5, e66]
    rw [if_neg c5, h7 (by omega) (by omega) (by omega) (by omega), if_pos rfl, e66]
  unfold F_128
  rw [rf_kind hS hR ht, kBd_s, rf_ix hS hR ht, kBd_s, hx]
  simp (disch := omega) only [pn_mulL, pn_addL, pn_addR, pn_ltL, pn_ltR, pn_leL, pn_leR, pn_eqL, pn_eqR, pn_subL, pn_z, pn_add, pn_mul, pn_nat, pn_inj, pn_lt, pn_le, pn_neg, kGx_nI, kGx_L]
  rw [if_neg h0, if_true]
  by_cases c8 : kd S t = 8
  · have := hn.2.2.2.2.2.2.2.2.2.2.2.2.1 c8
    rw [if_pos c8, rf_t1 hS hR ht (by omega), kBd_s, this.2.2, if_pos (h8 c8), e74]
  · rw [if_neg c8, e74]
set_option maxHeartbeats 4000000 in
theorem ra_sec {T : kT} {S : kS} {n t : Nat} {M : kM} (hS : sOk S n) (hR : sR S n M) (ht : t < n) (h0 : bin S t) (h7 : gp M (lMa 39) t = 1) : F_128 T (nI t) M = some (1, ak M (se S t)) := by
  have h1 := hS.1
  have hn := nk hS ht
  have a1 := hn.1.1
  have hx := hn.2.2.2.2.2.2.2.2.2.2.2.2.2.2.2
  have hb := hn.2.2.2.2.1 h0
  have h3 := hR.1 t ht
  have f2 := h3.2.2.2.2.2.1 h0
  obtain ⟨q1, q2⟩ := h0
  have hx0 : ix S t = 0 := by rw [hx, if_neg (by omega)]
  unfold F_128
  rw [rf_kind hS hR ht, kBd_s, rf_ix hS hR ht, kBd_s, hx0]
  unfold F_128_74 F_128_172
  simp (disch := omega) only [pn_mulL, pn_addL, pn_addR, pn_ltL, pn_ltR, pn_leL, pn_leR, pn_eqL, pn_eqR, pn_subL, pn_z, pn_add, pn_mul, pn_nat, pn_inj, pn_lt, pn_le, pn_neg, kGx_nI, kGx_L, h7, f2, rf_ask, kGd_t, kBd_s, kOpt_s, kOpt_n, kLf_s, kAg_l, kAg_r, kAg_f, if_true, if_false, ite_true, ite_false, eq_self_iff_true, ↓reduceIte, Nat.reduceEqDiff, Nat.reduceLeDiff, Nat.reduceLT, Nat.reduceAdd, Nat.reduceMul, Nat.reduceSub, Int32.reduceLT, Int32.reduceLE, Nat.add_zero, Nat.zero_add, Nat.succ_ne_self, Nat.not_lt_zero, Nat.one_ne_zero, Nat.zero_ne_one, i01, i02, i03, i04, i10, i12, i13, i14, i20, i21, i23, i24, i30, i31, i32, i34, i40, i41, i42, i43, not_true_eq_false, not_false_eq_true]
  rw [if_neg (by omega), if_neg (by omega), if_neg (by omega), if_neg (by omega), if_neg (by omega), if_neg (by omega), if_neg (by omega)]
set_option maxHeartbeats 4000000 in
theorem ra_lim {T : kT} {S : kS} {n t : Nat} {M : kM} (hS : sOk S n) (hR : sR S n M) (ht : t < n) (h8 : kd S t = 8) (h : ¬ gp M (lMa 26) t < vl S t) : F_128 T (nI t) M = some (1, tl M t 0) := by
  have h1 := hS.1
  have hn := nk hS ht
  have hx := hn.2.2.2.2.2.2.2.2.2.2.2.2.2.2.2
  have hx0 : ix S t = 0 := by rw [hx, if_neg (by omega)]
  have := hn.2.2.2.2.2.2.2.2.2.2.2.2.1 h8
  unfold F_128
  rw [rf_kind hS hR ht, kBd_s, rf_ix hS hR ht, kBd_s, hx0, h8]
  simp (disch := omega) only [pn_mulL, pn_addL, pn_addR, pn_ltL, pn_ltR, pn_leL, pn_leR, pn_eqL, pn_eqR, pn_subL, pn_z, pn_add, pn_mul, pn_nat, pn_inj, pn_lt, pn_le, pn_neg, kGx_nI, kGx_L, kGd_t, kBd_s, kOpt_s, kOpt_n, kLf_s, kAg_l, kAg_r, kAg_f, if_true, if_false, ite_true, ite_false, eq_self_iff_true, ↓reduceIte, Nat.reduceEqDiff, Nat.reduceLeDiff, Nat.reduceLT, Nat.reduceAdd, Nat.reduceMul, Nat.reduceSub, Int32.reduceLT, Int32.reduceLE, Nat.add_zero, Nat.zero_add, Nat.succ_ne_self, Nat.not_lt_zero, Nat.one_ne_zero, Nat.zero_ne_one, i01, i02, i03, i04, i10, i12, i13, i14, i20, i21, i23, i24, i30, i31, i32, i34, i40, i41, i42, i43, not_true_eq_false, not_false_eq_true]
  rw [rf_t1 hS hR ht (by omega), kBd_s, this.2.2, if_neg h, rf_tell0, kBd_s]
set_option maxHeartbeats 4000000 in
theorem ra_cnt {T : kT} {S : kS} {n t : Nat} {M : kM} (hS : sOk S n) (hR : sR S n M) (ht : t < n) (h8 : kd S t = 9) (h : gp M (lMa 39) t = 1) : F_128 T (nI t) M = some (1, tl M t 0) := by
  have h1 := hS.1
  have hn := nk hS ht
  have hx := hn.2.2.2.2.2.2.2.2.2.2.2.2.2.2.2
  have hx0 : ix S t = 0 := by rw [hx, if_neg (by omega)]
  unfold F_128
  rw [rf_kind hS hR ht, kBd_s, rf_ix hS hR ht, kBd_s, hx0, h8]
  unfold F_128_74 F_128_92
  simp (disch := omega) only [pn_mulL, pn_addL, pn_addR, pn_ltL, pn_ltR, pn_leL, pn_leR, pn_eqL, pn_eqR, pn_subL, pn_z, pn_add, pn_mul, pn_nat, pn_inj, pn_lt, pn_le, pn_neg, kGx_nI, kGx_L, kGd_t, kBd_s, kOpt_s, kOpt_n, kLf_s, kAg_l, kAg_r, kAg_f, if_true, if_false, ite_true, ite_false, eq_self_iff_true, ↓reduceIte, Nat.reduceEqDiff, Nat.reduceLeDiff, Nat.reduceLT, Nat.reduceAdd, Nat.reduceMul, Nat.reduceSub, Int32.reduceLT, Int32.reduceLE, Nat.add_zero, Nat.zero_add, Nat.succ_ne_self, Nat.not_lt_zero, Nat.one_ne_zero, Nat.zero_ne_one, i01, i02, i03, i04, i10, i12, i13, i14, i20, i21, i23, i24, i30, i31, i32, i34, i40, i41, i42, i43, not_true_eq_false, not_false_eq_true, h, rf_tell0]
/-- the next of the kept rows -/
def nxM (S : kS) (M : kM) (t p : Nat) : kM := tl (sp (sa M (lMa 28) (fl (gp M (lMa 28)) (t * 12) (wd S t) (fun c => gp M (lMa 27) (t * 1800 + p * 12 + c)))) (lMa 38) t (nI (p + 1))) t 1
set_option maxHeartbeats 4000000 in
theorem rf_next {T : kT} {S : kS} {n t p m : Nat} {M : kM} (hS : sOk S n) (hR : sR S n M) (ht : t < n) (hp : gp M (lMa 38) t = nI p) (hm : gp M (lMa 26) t = nI m) (hmm : m ≤ 150) (hpm : p ≤ m) : F_127 T (nI t) M = some ((), if p < m then nxM S M t p else tl (sp M (lMa 38) t (nI (p + 1))) t 0) := by
  have h1 := hS.1
  have hn := nk hS ht
  have h3 := hR.1 t ht
  have hw := hn.1.2.2.1
  unfold F_127
  simp (disch := omega) only [pn_mulL, pn_addL, pn_addR, pn_ltL, pn_ltR, pn_leL, pn_leR, pn_eqL, pn_eqR, pn_subL, pn_z, pn_add, pn_mul, pn_nat, pn_inj, pn_lt, pn_le, pn_neg, kGx_nI, kGx_L, hp, hm]
  by_cases q : p < m
  · rw [if_neg (by omega), if_pos q]
    refine fill (G := fun c M => F_127_23 T (nI t) 1 (nI c) M) (K := fun M => some ((), tl (sp M (lMa 38) t (nI (p + 1))) t 1)) (l := lMa 28) (d := t * 12) (w := wd S t) ?_ ?_
    · intro f c hc hf
      show F_127_23 T (nI t) 1 (nI c) (sa M (lMa 28) f) = F_127_23 T (nI t) 1 (nI (c + 1)) _
      rw [F_127_23_eq]
      unfold B_127_23
      simp (disch := omega) only [pn_mulL, pn_addL, pn_addR, pn_ltL, pn_ltR, pn_leL, pn_leR, pn_eqL, pn_eqR, pn_subL, pn_z, pn_add, pn_mul, pn_nat, pn_inj, pn_lt, pn_le, pn_neg, kGx_nI, kGx_L, gp_ne, gpa_ne, gp_sp, gp_sa, upd_eq, upd_ne, gq_sp, gq_sa, h3.2.1, hp]
      rw [if_neg (by omega), if_neg (by decide), kAg_l]
      show F_127_23 T (nI t) 1 (nI (c + 1)) (sa (sa M (lMa 28) f) (lMa 28) (upd (gp (sa M (lMa 28) f) (lMa 28)) (t * 12 + c) _)) = _
      rw [sa_sa, gp_sa, show (t * 150 + p) * 12 + c = t * 1800 + p * 12 + c by omega]
    · intro f
      show F_127_23 T (nI t) 1 (nI (wd S t)) (sa M (lMa 28) f) = _
      rw [F_127_23_eq]
      unfold B_127_23 F_127_76
      simp (disch := omega) only [pn_mulL, pn_addL, pn_addR, pn_ltL, pn_ltR, pn_leL, pn_leR, pn_eqL, pn_eqR, pn_subL, pn_z, pn_add, pn_mul, pn_nat, pn_inj, pn_lt, pn_le, pn_neg, kGx_nI, kGx_L, gp_ne, gpa_ne, gp_sp, gp_sa, upd_eq, upd_ne, gq_sp, gq_sa, h3.2.1, hp]
      rw [if_pos (by omega), rf_tell1, kBd_s, kAg_f]
  · rw [if_pos (by omega), if_neg q]
    rw [show (0 : Int32) = nI 0 from rfl, F_127_23_eq]
    unfold B_127_23 F_127_76
    simp (disch := omega) only [pn_mulL, pn_addL, pn_addR, pn_ltL, pn_ltR, pn_leL, pn_leR, pn_eqL, pn_eqR, pn_subL, pn_z, pn_add, pn_mul, pn_nat, pn_inj, pn_lt, pn_le, pn_neg, kGx_nI, kGx_L, gp_ne, gpa_ne, gp_sp, gp_sa, upd_eq, upd_ne, gq_sp, gq_sa, h3.2.1, hp]
    rw [show nI 0 = (0 : Int32) from rfl]
    by_cases w0 : wd S t ≤ 0
    · rw [if_pos w0, rf_tell0, kBd_s, kAg_f]
    · rw [if_neg w0, if_true, rf_tell0, kBd_s, kAg_f]
set_option maxHeartbeats 4000000 in
theorem ra_next {T : kT} {S : kS} {n t p m : Nat} {M : kM} (hS : sOk S n) (hR : sR S n M) (ht : t < n) (h8 : kd S t = 7 ∨ kd S t = 10) (h : gp M (lMa 39) t = 1) (hp : gp M (lMa 38) t = nI p) (hm : gp M (lMa 26) t = nI m) (hmm : m ≤ 150) (hpm : p ≤ m) : F_128 T (nI t) M = some (1, if p < m then nxM S M t p else tl (sp M (lMa 38) t (nI (p + 1))) t 0) := by
  have h1 := hS.1
  have hn := nk hS ht
  have hx := hn.2.2.2.2.2.2.2.2.2.2.2.2.2.2.2
  have hx0 : ix S t = 0 := by rw [hx, if_neg (by omega)]
  unfold F_128
  rw [rf_kind hS hR ht, kBd_s, rf_ix hS hR ht, kBd_s, hx0]
  unfold F_128_74 F_128_92
  have e := rf_next (T := T) hS hR ht hp hm hmm hpm
  rcases h8 with h8 | h8
  · rw [h8]
    simp (disch := omega) only [pn_mulL, pn_addL, pn_addR, pn_ltL, pn_ltR, pn_leL, pn_leR, pn_eqL, pn_eqR, pn_subL, pn_z, pn_add, pn_mul, pn_nat, pn_inj, pn_lt, pn_le, pn_neg, kGx_nI, kGx_L, kGd_t, kBd_s, kOpt_s, kOpt_n, kLf_s, kAg_l, kAg_r, kAg_f, if_true, if_false, ite_true, ite_false, eq_self_iff_true, ↓reduceIte, Nat.reduceEqDiff, Nat.reduceLeDiff, Nat.reduceLT, Nat.reduceAdd, Nat.reduceMul, Nat.reduceSub, Int32.reduceLT, Int32.reduceLE, Nat.add_zero, Nat.zero_add, Nat.succ_ne_self, Nat.not_lt_zero, Nat.one_ne_zero, Nat.zero_ne_one, i01, i02, i03, i04, i10, i12, i13, i14, i20, i21, i23, i24, i30, i31, i32, i34, i40, i41, i42, i43, not_true_eq_false, not_false_eq_true, h]
    rw [e, kBd_s]
  · rw [h8]
    simp (disch := omega) only [pn_mulL, pn_addL, pn_addR, pn_ltL, pn_ltR, pn_leL, pn_leR, pn_eqL, pn_eqR, pn_subL, pn_z, pn_add, pn_mul, pn_nat, pn_inj, pn_lt, pn_le, pn_neg, kGx_nI, kGx_L, kGd_t, kBd_s, kOpt_s, kOpt_n, kLf_s, kAg_l, kAg_r, kAg_f, if_true, if_false, ite_true, ite_false, eq_self_iff_true, ↓reduceIte, Nat.reduceEqDiff, Nat.reduceLeDiff, Nat.reduceLT, Nat.reduceAdd, Nat.reduceMul, Nat.reduceSub, Int32.reduceLT, Int32.reduceLE, Nat.add_zero, Nat.zero_add, Nat.succ_ne_self, Nat.not_lt_zero, Nat.one_ne_zero, Nat.zero_ne_one, i01, i02, i03, i04, i10, i12, i13, i14, i20, i21, i23, i24, i30, i31, i32, i34, i40, i41, i42, i43, not_true_eq_false, not_false_eq_true, h]
    rw [e, kBd_s]
/-- a row of a table -/
def scM (S : kS) (M : kM) (t j p : Nat) : kM := tl (sp (sa (sp M lMo 25 (gp M lMo 25 - 1)) (lMa 28) (fl (gp M (lMa 28)) (t * 12) (tw S j) (fun c => gp M (lMa 5) ((j * 40 + p) * 6 + c)))) (lMa 38) t (nI (p + 1))) t 1
set_option maxHeartbeats 4000000 in
theorem rf_scan1 {T : kT} {S : kS} {n t j p : Nat} {M : kM} (hS : sOk S n) (hR : sR S n M) (ht : t < n) (hj : j < nt S) (hp : gp M (lMa 38) t = nI p) (hpm : p ≤ tr S j) : F_126_67 T (nI t) (nI j) M = some (if p = tr S j then (1, tl M t 0) else if gp M lMo 25 = 0 then (0, M) else (1, scM S M t j p)) := by
  have h1 := hS.1
  have hn := nk hS ht
  have hT := hR.2 j hj
  have h2 := hS.2.1
  have hs := hS.2.2.1 j hj
  unfold F_126_67
  simp (disch := omega) only [pn_mulL, pn_addL, pn_addR, pn_ltL, pn_ltR, pn_leL, pn_leR, pn_eqL, pn_eqR, pn_subL, pn_z, pn_add, pn_mul, pn_nat, pn_inj, pn_lt, pn_le, pn_neg, kGx_nI, kGx_L, hp, hT.2.1]
  by_cases q : p = tr S j
  · rw [if_pos q, if_pos q, rf_tell0, kBd_s]
  rw [if_neg q, if_neg q]
  by_cases q2 : gp M lMo 25 = 0
  · rw [if_pos q2, if_pos q2]
  rw [if_neg q2, if_neg q2]
  refine fill (G := fun c M => F_126_113 T (nI t) (nI j) (nI c) M) (K := fun M => some (1, tl (sp M (lMa 38) t (nI (p + 1))) t 1)) (M := sp M lMo 25 (gp M lMo 25 - 1)) (l := lMa 28) (d := t * 12) (w := tw S j) ?_ ?_
  · intro f c hc hf
    show F_126_113 T (nI t) (nI j) (nI c) _ = F_126_113 T (nI t) (nI j) (nI (c + 1)) _
    rw [F_126_113_eq]
    unfold B_126_113 F_99
    simp (disch := omega) only [pn_mulL, pn_addL, pn_addR, pn_ltL, pn_ltR, pn_leL, pn_leR, pn_eqL, pn_eqR, pn_subL, pn_z, pn_add, pn_mul, pn_nat, pn_inj, pn_lt, pn_le, pn_neg, kGx_nI, kGx_L, gp_ne, gpa_ne, gp_sp, gp_sa, upd_eq, upd_ne, gq_sp, gq_sa, kGd_t, kBd_s, kOpt_s, kOpt_n, kLf_s, kAg_l, kAg_r, kAg_f, if_true, if_false, ite_true, ite_false, eq_self_iff_true, ↓reduceIte, Nat.reduceEqDiff, Nat.reduceLeDiff, Nat.reduceLT, Nat.reduceAdd, Nat.reduceMul, Nat.reduceSub, Int32.reduceLT, Int32.reduceLE, Nat.add_zero, Nat.zero_add, Nat.succ_ne_self, Nat.not_lt_zero, Nat.one_ne_zero, Nat.zero_ne_one, i01, i02, i03, i04, i10, i12, i13, i14, i20, i21, i23, i24, i30, i31, i32, i34, i40, i41, i42, i43, not_true_eq_false, not_false_eq_true, hT.1, hp]
    rw [if_neg (by omega), kAg_l]
    unfold sp
    rw [sa_sa, gp_sa]
  · intro f
    show F_126_113 T (nI t) (nI j) (nI (tw S j)) _ = _
    rw [F_126_113_eq]
    unfold B_126_113
    simp (disch := omega) only [pn_mulL, pn_addL, pn_addR, pn_ltL, pn_ltR, pn_leL, pn_leR, pn_eqL, pn_eqR, pn_subL, pn_z, pn_add, pn_mul, pn_nat, pn_inj, pn_lt, pn_le, pn_neg, kGx_nI, kGx_L, gp_ne, gpa_ne, gp_sp, gp_sa, upd_eq, upd_ne, gq_sp, gq_sa, kGd_t, kBd_s, kOpt_s, kOpt_n, kLf_s, kAg_l, kAg_r, kAg_f, if_true, if_false, ite_true, ite_false, eq_self_iff_true, ↓reduceIte, Nat.reduceEqDiff, Nat.reduceLeDiff, Nat.reduceLT, Nat.reduceAdd, Nat.reduceMul, Nat.reduceSub, Int32.reduceLT, Int32.reduceLE, Nat.add_zero, Nat.zero_add, Nat.succ_ne_self, Nat.not_lt_zero, Nat.one_ne_zero, Nat.zero_ne_one, i01, i02, i03, i04, i10, i12, i13, i14, i20, i21, i23, i24, i30, i31, i32, i34, i40, i41, i42, i43, not_true_eq_false, not_false_eq_true, hT.1, hp, rf_tell1]
    rw [if_pos (by omega)]
    simp (disch := omega) only [kGd_t, kBd_s, kOpt_s, kOpt_n, kLf_s, kAg_l, kAg_r, kAg_f, if_true, if_false, ite_true, ite_false, eq_self_iff_true, ↓reduceIte, Nat.reduceEqDiff, Nat.reduceLeDiff, Nat.reduceLT, Nat.reduceAdd, Nat.reduceMul, Nat.reduceSub, Int32.reduceLT, Int32.reduceLE, Nat.add_zero, Nat.zero_add, Nat.succ_ne_self, Nat.not_lt_zero, Nat.one_ne_zero, Nat.zero_ne_one, i01, i02, i03, i04, i10, i12, i13, i14, i20, i21, i23, i24, i30, i31, i32, i34, i40, i41, i42, i43, not_true_eq_false, not_false_eq_true]
set_option maxHeartbeats 4000000 in
theorem ra_scan {T : kT} {S : kS} {n t p : Nat} {M : kM} (hS : sOk S n) (hR : sR S n M) (ht : t < n) (h0 : kd S t = 0) (hp : gp M (lMa 38) t = nI p) (hpm : p ≤ tr S (sc S t)) : F_128 T (nI t) M = some (if p = tr S (sc S t) then (1, tl M t 0) else if gp M lMo 25 = 0 then (0, M) else (1, scM S M t (sc S t) p)) := by
  have h1 := hS.1
  have hn := nk hS ht
  have hc := hn.2.1 h0
  have hT := hR.2 _ hc.2.2.2.1
  have h2 := hS.2.1
  have hs := hS.2.2.1 _ hc.2.2.2.1
  have e1 := rf_scan1 (T := T) hS hR ht hc.2.2.2.1 hp hpm
  unfold F_128
  rw [rf_kind hS hR ht, kBd_s, h0]
  simp (disch := omega) only [pn_mulL, pn_addL, pn_addR, pn_ltL, pn_ltR, pn_leL, pn_leR, pn_eqL, pn_eqR, pn_subL, pn_z, pn_add, pn_mul, pn_nat, pn_inj, pn_lt, pn_le, pn_neg, kGx_nI, kGx_L, kGd_t, kBd_s, kOpt_s, kOpt_n, kLf_s, kAg_l, kAg_r, kAg_f, if_true, if_false, ite_true, ite_false, eq_self_iff_true, ↓reduceIte, Nat.reduceEqDiff, Nat.reduceLeDiff, Nat.reduceLT, Nat.reduceAdd, Nat.reduceMul, Nat.reduceSub, Int32.reduceLT, Int32.reduceLE, Nat.add_zero, Nat.zero_add, Nat.succ_ne_self, Nat.not_lt_zero, Nat.one_ne_zero, Nat.zero_ne_one, i01, i02, i03, i04, i10, i12, i13, i14, i20, i21, i23, i24, i30, i31, i32, i34, i40, i41, i42, i43, not_true_eq_false, not_false_eq_true]
  unfold F_126
  rw [rf_t1 hS hR ht (by omega), kBd_s, hc.2.2.1, F_126_8_eq]
  unfold B_126_8
  simp (disch := omega) only [pn_mulL, pn_addL, pn_addR, pn_ltL, pn_ltR, pn_leL, pn_leR, pn_eqL, pn_eqR, pn_subL, pn_z, pn_add, pn_mul, pn_nat, pn_inj, pn_lt, pn_le, pn_neg, kGx_nI, kGx_L, hp, hT.2.1]
  rw [if_pos (show (-1 : Int32) < 0 by decide)]
  have : (if tr S (sc S t) ≤ p then kLf (F_126_67 T (nI t) (nI (sc S t)) M) else kLf (F_126_67 T (nI t) (nI (sc S t)) M) : Option (kM ⊕ (Int32 × kM))) = kLf (F_126_67 T (nI t) (nI (sc S t)) M) := by
    by_cases q : tr S (sc S t) ≤ p
    · rw [if_pos q]
    · rw [if_neg q]
  rw [this, kAg_f, e1]
  by_cases q : p = tr S (sc S t)
  · rw [if_pos q]; rfl
  rw [if_neg q]
  by_cases q2 : gp M lMo 25 = 0
  · rw [if_pos q2]; rfl
  rw [if_neg q2]; rfl
