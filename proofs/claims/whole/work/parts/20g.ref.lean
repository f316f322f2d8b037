def alB (p : Nat → Bool) : Nat → Nat → Bool
  | 0, _ => true
  | m + 1, k => p k && alB p m (k + 1)
def exB (p : Nat → Bool) : Nat → Nat → Bool
  | 0, _ => false
  | m + 1, k => p k || exB p m (k + 1)
/-- the first that is so, or the end -/
def fiB (p : Nat → Bool) : Nat → Nat → Nat
  | 0, k => k
  | m + 1, k => cond (p k) k (fiB p m (k + 1))
set_option maxHeartbeats 4000000 in
theorem alB_congr {p q : Nat → Bool} : ∀ m k, (∀ i, k ≤ i → i < k + m → p i = q i) → alB p m k = alB q m k
  | 0, _, _ => rfl
  | m + 1, k, h => by rw [alB, alB, h k (by omega) (by omega), alB_congr m (k + 1) (fun i a b => h i (by omega) (by omega))]
set_option maxHeartbeats 4000000 in
theorem exB_congr {p q : Nat → Bool} : ∀ m k, (∀ i, k ≤ i → i < k + m → p i = q i) → exB p m k = exB q m k
  | 0, _, _ => rfl
  | m + 1, k, h => by rw [exB, exB, h k (by omega) (by omega), exB_congr m (k + 1) (fun i a b => h i (by omega) (by omega))]
set_option maxHeartbeats 4000000 in
theorem fiB_congr {p q : Nat → Bool} : ∀ m k, (∀ i, k ≤ i → i < k + m → p i = q i) → fiB p m k = fiB q m k
  | 0, _, _ => rfl
  | m + 1, k, h => by rw [fiB, fiB, h k (by omega) (by omega), fiB_congr m (k + 1) (fun i a b => h i (by omega) (by omega))]
set_option maxHeartbeats 4000000 in
theorem fiB_le {p : Nat → Bool} : ∀ m k, k ≤ fiB p m k ∧ fiB p m k ≤ k + m
  | 0, k => ⟨Nat.le_refl _, Nat.le_refl _⟩
  | m + 1, k => by
    rw [fiB]
    cases h : p k with
    | true => rw [cond_true]; omega
    | false => rw [cond_false]; have := fiB_le (p := p) m (k + 1); omega
set_option maxHeartbeats 4000000 in
theorem rc_sel {T : kT} {S : kS} {n t : Nat} {M : kM} (hS : sOk S n) (hR : sR S n M) (ht : t < n) (h : kd S t = 1) : F_131 T (nI t) (nI (t + 1)) M = some (1, cond (soB (gp M (lMa 28) ((t + 1) * 12 + ch S t)) (hw S t) (vl S t)) (cpM S M t (t + 1)) (ak M (t + 1))) := by
  have h1 := hS.1
  have hn := nk hS ht
  have hb := hn.2.2.1 (by omega)
  unfold F_131
  rw [rf_kind hS hR ht, kBd_s, h]
  simp (disch := omega) only [pn_mulL, pn_addL, pn_addR, pn_ltL, pn_ltR, pn_leL, pn_leR, pn_eqL, pn_eqR, pn_subL, pn_z, pn_add, pn_mul, pn_nat, pn_inj, pn_lt, pn_le, pn_neg, kGx_nI, kGx_L, kGd_t, kBd_s, kOpt_s, kOpt_n, kLf_s, kAg_l, kAg_r, kAg_f, if_true, if_false, ite_true, ite_false, eq_self_iff_true, ↓reduceIte, Nat.reduceEqDiff, Nat.reduceLeDiff, Nat.reduceLT, Nat.reduceAdd, Nat.reduceMul, Nat.reduceSub, Int32.reduceLT, Int32.reduceLE, Nat.add_zero, Nat.zero_add, Nat.succ_ne_self, Nat.not_lt_zero, Nat.one_ne_zero, Nat.zero_ne_one, i01, i02, i03, i04, i10, i12, i13, i14, i20, i21, i23, i24, i30, i31, i32, i34, i40, i41, i42, i43, not_true_eq_false, not_false_eq_true]
  rw [rf_holds hS hR ht h, kBd_s]
  cases soB (gp M (lMa 28) ((t + 1) * 12 + ch S t)) (hw S t) (vl S t) with
  | true => rw [if_pos rfl, cond_true, if_neg (by decide), rf_copy hS hR ht hb.2.1 (by omega), kBd_s]
  | false => rw [if_neg Bool.false_ne_true, cond_false, if_pos rfl, rf_ask, kBd_s]
set_option maxHeartbeats 4000000 in
theorem rc_union {T : kT} {S : kS} {n t a : Nat} {M : kM} (hS : sOk S n) (hR : sR S n M) (ht : t < n) (h : kd S t = 5) (ha : a < n) (hta : t ≠ a) : F_131 T (nI t) (nI a) M = some (1, cpM S M t a) := by
  have h1 := hS.1
  unfold F_131
  rw [rf_kind hS hR ht, kBd_s, h]
  simp (disch := omega) only [pn_mulL, pn_addL, pn_addR, pn_ltL, pn_ltR, pn_leL, pn_leR, pn_eqL, pn_eqR, pn_subL, pn_z, pn_add, pn_mul, pn_nat, pn_inj, pn_lt, pn_le, pn_neg, kGx_nI, kGx_L, kGd_t, kBd_s, kOpt_s, kOpt_n, kLf_s, kAg_l, kAg_r, kAg_f, if_true, if_false, ite_true, ite_false, eq_self_iff_true, ↓reduceIte, Nat.reduceEqDiff, Nat.reduceLeDiff, Nat.reduceLT, Nat.reduceAdd, Nat.reduceMul, Nat.reduceSub, Int32.reduceLT, Int32.reduceLE, Nat.add_zero, Nat.zero_add, Nat.succ_ne_self, Nat.not_lt_zero, Nat.one_ne_zero, Nat.zero_ne_one, i01, i02, i03, i04, i10, i12, i13, i14, i20, i21, i23, i24, i30, i31, i32, i34, i40, i41, i42, i43, not_true_eq_false, not_false_eq_true, rf_copy hS hR ht ha hta]
set_option maxHeartbeats 4000000 in
theorem rc_lim {T : kT} {S : kS} {n t : Nat} {M : kM} (hS : sOk S n) (hR : sR S n M) (ht : t < n) (h : kd S t = 8) : F_131 T (nI t) (nI (t + 1)) M = some (1, cpM S (sp M (lMa 26) t (gp M (lMa 26) t + 1)) t (t + 1)) := by
  have h1 := hS.1
  have hb := (nk hS ht).2.2.1 (by omega)
  unfold F_131
  rw [rf_kind hS hR ht, kBd_s, h]
  simp (disch := omega) only [pn_mulL, pn_addL, pn_addR, pn_ltL, pn_ltR, pn_leL, pn_leR, pn_eqL, pn_eqR, pn_subL, pn_z, pn_add, pn_mul, pn_nat, pn_inj, pn_lt, pn_le, pn_neg, kGx_nI, kGx_L, kGd_t, kBd_s, kOpt_s, kOpt_n, kLf_s, kAg_l, kAg_r, kAg_f, if_true, if_false, ite_true, ite_false, eq_self_iff_true, ↓reduceIte, Nat.reduceEqDiff, Nat.reduceLeDiff, Nat.reduceLT, Nat.reduceAdd, Nat.reduceMul, Nat.reduceSub, Int32.reduceLT, Int32.reduceLE, Nat.add_zero, Nat.zero_add, Nat.succ_ne_self, Nat.not_lt_zero, Nat.one_ne_zero, Nat.zero_ne_one, i01, i02, i03, i04, i10, i12, i13, i14, i20, i21, i23, i24, i30, i31, i32, i34, i40, i41, i42, i43, not_true_eq_false, not_false_eq_true]
  rw [rf_copy hS (sR_mp (by omega) hR) ht hb.2.1 (by omega), kBd_s]
set_option maxHeartbeats 4000000 in
theorem rc_cnt {T : kT} {S : kS} {n t : Nat} {M : kM} (hS : sOk S n) (hR : sR S n M) (ht : t < n) (h : kd S t = 9) : F_131 T (nI t) (nI (t + 1)) M = some (1, ak (sp M (lMa 26) t (gp M (lMa 26) t + 1)) (t + 1)) := by
  have h1 := hS.1
  unfold F_131
  rw [rf_kind hS hR ht, kBd_s, h]
  simp (disch := omega) only [pn_mulL, pn_addL, pn_addR, pn_ltL, pn_ltR, pn_leL, pn_leR, pn_eqL, pn_eqR, pn_subL, pn_z, pn_add, pn_mul, pn_nat, pn_inj, pn_lt, pn_le, pn_neg, kGx_nI, kGx_L, kGd_t, kBd_s, kOpt_s, kOpt_n, kLf_s, kAg_l, kAg_r, kAg_f, if_true, if_false, ite_true, ite_false, eq_self_iff_true, ↓reduceIte, Nat.reduceEqDiff, Nat.reduceLeDiff, Nat.reduceLT, Nat.reduceAdd, Nat.reduceMul, Nat.reduceSub, Int32.reduceLT, Int32.reduceLE, Nat.add_zero, Nat.zero_add, Nat.succ_ne_self, Nat.not_lt_zero, Nat.one_ne_zero, Nat.zero_ne_one, i01, i02, i03, i04, i10, i12, i13, i14, i20, i21, i23, i24, i30, i31, i32, i34, i40, i41, i42, i43, not_true_eq_false, not_false_eq_true]
  rw [rf_ask, kBd_s]
def pjM (S : kS) (M : kM) (t : Nat) : kM := tl (sa M (lMa 28) (fl (gp M (lMa 28)) (t * 12) (wd S t) (fun c => gp M (lMa 28) ((t + 1) * 12 + pk S t c)))) t 1
set_option maxHeartbeats 4000000 in
theorem rc_proj {T : kT} {S : kS} {n t : Nat} {M : kM} (hS : sOk S n) (hR : sR S n M) (ht : t < n) (h : kd S t = 2) : F_131 T (nI t) (nI (t + 1)) M = some (1, pjM S M t) := by
  have h1 := hS.1
  have hn := nk hS ht
  have hb := hn.2.2.1 (by omega)
  have hp := hn.2.2.2.2.2.2.1 h
  have hw1 := (nk hS hb.2.1).1.2.2.1
  unfold F_131
  rw [rf_kind hS hR ht, kBd_s, h]
  simp (disch := omega) only [pn_mulL, pn_addL, pn_addR, pn_ltL, pn_ltR, pn_leL, pn_leR, pn_eqL, pn_eqR, pn_subL, pn_z, pn_add, pn_mul, pn_nat, pn_inj, pn_lt, pn_le, pn_neg, kGx_nI, kGx_L, kGd_t, kBd_s, kOpt_s, kOpt_n, kLf_s, kAg_l, kAg_r, kAg_f, if_true, if_false, ite_true, ite_false, eq_self_iff_true, ↓reduceIte, Nat.reduceEqDiff, Nat.reduceLeDiff, Nat.reduceLT, Nat.reduceAdd, Nat.reduceMul, Nat.reduceSub, Int32.reduceLT, Int32.reduceLE, Nat.add_zero, Nat.zero_add, Nat.succ_ne_self, Nat.not_lt_zero, Nat.one_ne_zero, Nat.zero_ne_one, i01, i02, i03, i04, i10, i12, i13, i14, i20, i21, i23, i24, i30, i31, i32, i34, i40, i41, i42, i43, not_true_eq_false, not_false_eq_true]
  refine fill (G := fun c M => F_131_87 T (nI t) (nI (t + 1)) (nI c) M) (K := fun M => some (1, tl M t 1)) (l := lMa 28) (d := t * 12) (w := wd S t) ?_ ?_
  · intro f c hc hf
    have hR' : sR S n (sa M (lMa 28) f) := sR_ma (by omega) hR
    have h3 := hR'.1 t ht
    have tt := rf_told (T := T) (i := 2 + c) hS hR' ht (by omega)
    have hpc := hp.2.2 c hc
    show F_131_87 T (nI t) (nI (t + 1)) (nI c) _ = F_131_87 T (nI t) (nI (t + 1)) (nI (c + 1)) _
    rw [F_131_87_eq]
    unfold B_131_87
    simp (disch := omega) only [pn_mulL, pn_addL, pn_addR, pn_ltL, pn_ltR, pn_leL, pn_leR, pn_eqL, pn_eqR, pn_subL, pn_z, pn_add, pn_mul, pn_nat, pn_inj, pn_lt, pn_le, pn_neg, kGx_nI, kGx_L, h3.2.1]
    rw [if_neg (by omega), tt, kBd_s, hpc.1]
    simp (disch := omega) only [pn_mulL, pn_addL, pn_addR, pn_ltL, pn_ltR, pn_leL, pn_leR, pn_eqL, pn_eqR, pn_subL, pn_z, pn_add, pn_mul, pn_nat, pn_inj, pn_lt, pn_le, pn_neg, kGx_nI, kGx_L, gp_ne, gpa_ne, gp_sp, gp_sa, upd_eq, upd_ne, gq_sp, gq_sa]
    rw [kAg_l, hf _ (by omega)]
    unfold sp
    rw [sa_sa, gp_sa]
  · intro f
    have hR' : sR S n (sa M (lMa 28) f) := sR_ma (by omega) hR
    have h3 := hR'.1 t ht
    show F_131_87 T (nI t) (nI (t + 1)) (nI (wd S t)) _ = _
    rw [F_131_87_eq]
    unfold B_131_87
    simp (disch := omega) only [pn_mulL, pn_addL, pn_addR, pn_ltL, pn_ltR, pn_leL, pn_leR, pn_eqL, pn_eqR, pn_subL, pn_z, pn_add, pn_mul, pn_nat, pn_inj, pn_lt, pn_le, pn_neg, kGx_nI, kGx_L, h3.2.1]
    rw [if_pos (by omega), rf_tell1, kBd_s, kAg_r]
set_option maxHeartbeats 4000000 in
theorem rc_first {T : kT} {S : kS} {n t : Nat} {M : kM} (hS : sOk S n) (hR : sR S n M) (ht : t < n) (h : kd S t = 3 ∨ kd S t = 4) : ∃ M', F_131 T (nI t) (nI (t + 1)) M = some (1, ak M' (se S t)) ∧ an (se S t) (en S (se S t) + 1) (sp (sa M (lMa 29) (fl (gp M (lMa 29)) (t * 12) (wd S (t + 1)) (fun c => gp M (lMa 28) ((t + 1) * 12 + c)))) (lMa 39) t 1) M' := by
  have h1 := hS.1
  have hn := nk hS ht
  have hb := hn.2.2.1 (by omega)
  have hbn : bin S t := ⟨by omega, by omega⟩
  have hb2 := hn.2.2.2.2.1 hbn
  have h3 := hR.1 t ht
  have h31 := hR.1 (t + 1) hb.2.1
  have hw1 := (nk hS hb.2.1).1.2.2.1
  have hRR : sR S n (sp (sa M (lMa 29) (fl (gp M (lMa 29)) (t * 12) (wd S (t + 1)) (fun c => gp M (lMa 28) ((t + 1) * 12 + c)))) (lMa 39) t 1) := sR_mp (by omega) (sR_ma (by omega) hR)
  obtain ⟨M', e, hA⟩ := rf_anew (T := T) hS hb2.2.1 hRR
  refine ⟨M', ?_, hA⟩
  have hRM' := sR_fr (an_fr hA) hRR
  have key : F_132 T (nI t) (nI (t + 1)) M = some ((), ak M' (se S t)) := by
    unfold F_132
    simp (disch := omega) only [pn_mulL, pn_addL, pn_addR, pn_ltL, pn_ltR, pn_leL, pn_leR, pn_eqL, pn_eqR, pn_subL, pn_z, pn_add, pn_mul, pn_nat, pn_inj, pn_lt, pn_le, pn_neg, kGx_nI, kGx_L, kGd_t, kBd_s, kOpt_s, kOpt_n, kLf_s, kAg_l, kAg_r, kAg_f, if_true, if_false, ite_true, ite_false, eq_self_iff_true, ↓reduceIte, Nat.reduceEqDiff, Nat.reduceLeDiff, Nat.reduceLT, Nat.reduceAdd, Nat.reduceMul, Nat.reduceSub, Int32.reduceLT, Int32.reduceLE, Nat.add_zero, Nat.zero_add, Nat.succ_ne_self, Nat.not_lt_zero, Nat.one_ne_zero, Nat.zero_ne_one, i01, i02, i03, i04, i10, i12, i13, i14, i20, i21, i23, i24, i30, i31, i32, i34, i40, i41, i42, i43, not_true_eq_false, not_false_eq_true, h3.2.2.2.2.1 (by omega), h31.2.1]
    have := fill (G := fun c M => F_132_25 T (nI t) (nI (t + 1)) (nI (wd S (t + 1))) (nI c) M) (K := fun M => kBd (F_122 T (nI (se S t)) (sp M (lMa 39) t 1)) (fun _ M => kBd (F_123 T (nI (se S t)) M) (fun _ M => some ((), M)))) (M := M) (l := lMa 29) (d := t * 12) (w := wd S (t + 1)) (src := fun c => gp M (lMa 28) ((t + 1) * 12 + c)) ?_ ?_
    · rw [e] at this
      exact this
    · intro f c hc hf
      show F_132_25 T (nI t) (nI (t + 1)) (nI (wd S (t + 1))) (nI c) _ = F_132_25 T (nI t) (nI (t + 1)) (nI (wd S (t + 1))) (nI (c + 1)) _
      rw [F_132_25_eq]
      unfold B_132_25
      simp (disch := omega) only [pn_mulL, pn_addL, pn_addR, pn_ltL, pn_ltR, pn_leL, pn_leR, pn_eqL, pn_eqR, pn_subL, pn_z, pn_add, pn_mul, pn_nat, pn_inj, pn_lt, pn_le, pn_neg, kGx_nI, kGx_L, gp_ne, gpa_ne, gp_sp, gp_sa, upd_eq, upd_ne, gq_sp, gq_sa, kGd_t, kBd_s, kOpt_s, kOpt_n, kLf_s, kAg_l, kAg_r, kAg_f, if_true, if_false, ite_true, ite_false, eq_self_iff_true, ↓reduceIte, Nat.reduceEqDiff, Nat.reduceLeDiff, Nat.reduceLT, Nat.reduceAdd, Nat.reduceMul, Nat.reduceSub, Int32.reduceLT, Int32.reduceLE, Nat.add_zero, Nat.zero_add, Nat.succ_ne_self, Nat.not_lt_zero, Nat.one_ne_zero, Nat.zero_ne_one, i01, i02, i03, i04, i10, i12, i13, i14, i20, i21, i23, i24, i30, i31, i32, i34, i40, i41, i42, i43, not_true_eq_false, not_false_eq_true]
      rw [if_neg (by omega), kAg_l]
      unfold sp
      rw [sa_sa, gp_sa]
    · intro f
      show F_132_25 T (nI t) (nI (t + 1)) (nI (wd S (t + 1))) (nI (wd S (t + 1))) _ = _
      have hR' : sR S n (sp (sa M (lMa 29) f) (lMa 39) t 1) := sR_mp (by omega) (sR_ma (by omega) hR)
      obtain ⟨M2, e2, hA2⟩ := rf_anew (T := T) hS hb2.2.1 hR'
      have hR2 := (sR_fr (an_fr hA2) hR').1 t ht
      rw [F_132_25_eq]
      unfold B_132_25
      have q20 : gp (sp (sa M (lMa 29) f) (lMa 39) t 1) (lMa 20) t = nI (se S t) := by
        simp (disch := omega) only [gp_ne, gpa_ne, gp_sp, gp_sa, upd_eq, upd_ne, gq_sp, gq_sa]
        exact h3.2.2.2.2.2.1 hbn
      rw [if_pos (by simp (disch := omega) only [pn_mulL, pn_addL, pn_addR, pn_ltL, pn_ltR, pn_leL, pn_leR, pn_eqL, pn_eqR, pn_subL, pn_z, pn_add, pn_mul, pn_nat, pn_inj, pn_lt, pn_le, pn_neg, kGx_nI, kGx_L]; omega)]
      simp (disch := omega) only [pn_mulL, pn_addL, pn_addR, pn_ltL, pn_ltR, pn_leL, pn_leR, pn_eqL, pn_eqR, pn_subL, pn_z, pn_add, pn_mul, pn_nat, pn_inj, pn_lt, pn_le, pn_neg, kGx_nI, kGx_L]
      rw [q20, e2, kBd_s, hR2.2.2.2.2.2.1 hbn, rf_ask, kBd_s, kAg_r, kBd_s, rf_ask, kBd_s]
  unfold F_131
  rw [rf_kind hS hR ht, kBd_s]
  rcases h with h | h
  · rw [h]
    simp (disch := omega) only [pn_mulL, pn_addL, pn_addR, pn_ltL, pn_ltR, pn_leL, pn_leR, pn_eqL, pn_eqR, pn_subL, pn_z, pn_add, pn_mul, pn_nat, pn_inj, pn_lt, pn_le, pn_neg, kGx_nI, kGx_L, kGd_t, kBd_s, kOpt_s, kOpt_n, kLf_s, kAg_l, kAg_r, kAg_f, if_true, if_false, ite_true, ite_false, eq_self_iff_true, ↓reduceIte, Nat.reduceEqDiff, Nat.reduceLeDiff, Nat.reduceLT, Nat.reduceAdd, Nat.reduceMul, Nat.reduceSub, Int32.reduceLT, Int32.reduceLE, Nat.add_zero, Nat.zero_add, Nat.succ_ne_self, Nat.not_lt_zero, Nat.one_ne_zero, Nat.zero_ne_one, i01, i02, i03, i04, i10, i12, i13, i14, i20, i21, i23, i24, i30, i31, i32, i34, i40, i41, i42, i43, not_true_eq_false, not_false_eq_true, key]
  · rw [h]
    simp (disch := omega) only [pn_mulL, pn_addL, pn_addR, pn_ltL, pn_ltR, pn_leL, pn_leR, pn_eqL, pn_eqR, pn_subL, pn_z, pn_add, pn_mul, pn_nat, pn_inj, pn_lt, pn_le, pn_neg, kGx_nI, kGx_L, kGd_t, kBd_s, kOpt_s, kOpt_n, kLf_s, kAg_l, kAg_r, kAg_f, if_true, if_false, ite_true, ite_false, eq_self_iff_true, ↓reduceIte, Nat.reduceEqDiff, Nat.reduceLeDiff, Nat.reduceLT, Nat.reduceAdd, Nat.reduceMul, Nat.reduceSub, Int32.reduceLT, Int32.reduceLE, Nat.add_zero, Nat.zero_add, Nat.succ_ne_self, Nat.not_lt_zero, Nat.one_ne_zero, Nat.zero_ne_one, i01, i02, i03, i04, i10, i12, i13, i14, i20, i21, i23, i24, i30, i31, i32, i34, i40, i41, i42, i43, not_true_eq_false, not_false_eq_true, key]
def prM (S : kS) (M : kM) (t : Nat) : kM := tl (sa M (lMa 28) (fl (gp M (lMa 28)) (t * 12) (wd S t) (fun c => if wd S (t + 1) ≤ c then gp M (lMa 28) (se S t * 12 + (c - wd S (t + 1))) else gp M (lMa 29) (t * 12 + c)))) t 1
set_option maxHeartbeats 4000000 in
theorem rc_second {T : kT} {S : kS} {n t : Nat} {M : kM} (hS : sOk S n) (hR : sR S n M) (ht : t < n) (h : kd S t = 3 ∨ kd S t = 4) : F_131 T (nI t) (nI (se S t)) M = some (1, if kd S t = 4 ∧ gp M (lMa 29) (t * 12 + ch S t) ≠ gp M (lMa 28) (se S t * 12 + ot S t) then ak M (se S t) else prM S M t) := by
  have h1 := hS.1
  have hn := nk hS ht
  have hb := hn.2.2.1 (by omega)
  have hb2 := hn.2.2.2.2.1 ⟨by omega, by omega⟩
  have h3 := hR.1 t ht
  have h31 := hR.1 (t + 1) hb.2.1
  have hw0 := hn.1.2.2.1
  have hw1 := (nk hS hb.2.1).1.2.2.1
  have hw2 := (nk hS hb2.2.1).1.2.2.1
  have hws : wd S t = wd S (t + 1) + wd S (se S t) := by
    rcases h with h | h
    · exact hn.2.2.2.2.2.2.2.1 h
    · exact (hn.2.2.2.2.2.2.2.2.1 h).2.1
  have k46 : F_132_146 T (nI t) (nI (se S t)) (nI (wd S (t + 1))) 0 M = some ((), prM S M t) := by
    refine fill (G := fun c M => F_132_146 T (nI t) (nI (se S t)) (nI (wd S (t + 1))) (nI c) M) (K := fun M => some ((), tl M t 1)) (M := M) (l := lMa 28) (d := t * 12) (w := wd S t) ?_ ?_
    · intro f c hc hf
      show F_132_146 T (nI t) (nI (se S t)) (nI (wd S (t + 1))) (nI c) _ = F_132_146 T (nI t) (nI (se S t)) (nI (wd S (t + 1))) (nI (c + 1)) _
      rw [F_132_146_eq]
      unfold B_132_146 F_132_203
      simp (disch := omega) only [pn_mulL, pn_addL, pn_addR, pn_ltL, pn_ltR, pn_leL, pn_leR, pn_eqL, pn_eqR, pn_subL, pn_z, pn_add, pn_mul, pn_nat, pn_inj, pn_lt, pn_le, pn_neg, kGx_nI, kGx_L, gp_ne, gpa_ne, gp_sp, gp_sa, upd_eq, upd_ne, gq_sp, gq_sa, kGd_t, kBd_s, kOpt_s, kOpt_n, kLf_s, kAg_l, kAg_r, kAg_f, if_true, if_false, ite_true, ite_false, eq_self_iff_true, ↓reduceIte, Nat.reduceEqDiff, Nat.reduceLeDiff, Nat.reduceLT, Nat.reduceAdd, Nat.reduceMul, Nat.reduceSub, Int32.reduceLT, Int32.reduceLE, Nat.add_zero, Nat.zero_add, Nat.succ_ne_self, Nat.not_lt_zero, Nat.one_ne_zero, Nat.zero_ne_one, i01, i02, i03, i04, i10, i12, i13, i14, i20, i21, i23, i24, i30, i31, i32, i34, i40, i41, i42, i43, not_true_eq_false, not_false_eq_true, h3.2.1]
      rw [if_neg (by omega)]
      by_cases q : wd S (t + 1) ≤ c
      · rw [if_pos q, if_pos q, pn_sub (by omega)]
        simp (disch := omega) only [pn_mulL, pn_addL, pn_addR, pn_ltL, pn_ltR, pn_leL, pn_leR, pn_eqL, pn_eqR, pn_subL, pn_z, pn_add, pn_mul, pn_nat, pn_inj, pn_lt, pn_le, pn_neg, kGx_nI, kGx_L, gp_ne, gpa_ne, gp_sp, gp_sa, upd_eq, upd_ne, gq_sp, gq_sa, kGd_t, kBd_s, kOpt_s, kOpt_n, kLf_s, kAg_l, kAg_r, kAg_f, if_true, if_false, ite_true, ite_false, eq_self_iff_true, ↓reduceIte, Nat.reduceEqDiff, Nat.reduceLeDiff, Nat.reduceLT, Nat.reduceAdd, Nat.reduceMul, Nat.reduceSub, Int32.reduceLT, Int32.reduceLE, Nat.add_zero, Nat.zero_add, Nat.succ_ne_self, Nat.not_lt_zero, Nat.one_ne_zero, Nat.zero_ne_one, i01, i02, i03, i04, i10, i12, i13, i14, i20, i21, i23, i24, i30, i31, i32, i34, i40, i41, i42, i43, not_true_eq_false, not_false_eq_true]
        rw [hf _ (by omega), show se S t * 12 + c - wd S (t + 1) = se S t * 12 + (c - wd S (t + 1)) by omega]
        unfold sp
        rw [sa_sa, gp_sa]
      · rw [if_neg q, if_neg q]
        simp (disch := omega) only [kGd_t, kBd_s, kOpt_s, kOpt_n, kLf_s, kAg_l, kAg_r, kAg_f, if_true, if_false, ite_true, ite_false, eq_self_iff_true, ↓reduceIte, Nat.reduceEqDiff, Nat.reduceLeDiff, Nat.reduceLT, Nat.reduceAdd, Nat.reduceMul, Nat.reduceSub, Int32.reduceLT, Int32.reduceLE, Nat.add_zero, Nat.zero_add, Nat.succ_ne_self, Nat.not_lt_zero, Nat.one_ne_zero, Nat.zero_ne_one, i01, i02, i03, i04, i10, i12, i13, i14, i20, i21, i23, i24, i30, i31, i32, i34, i40, i41, i42, i43, not_true_eq_false, not_false_eq_true]
        unfold sp
        rw [sa_sa, gp_sa]
    · intro f
      show F_132_146 T (nI t) (nI (se S t)) (nI (wd S (t + 1))) (nI (wd S t)) _ = _
      rw [F_132_146_eq]
      unfold B_132_146
      simp (disch := omega) only [pn_mulL, pn_addL, pn_addR, pn_ltL, pn_ltR, pn_leL, pn_leR, pn_eqL, pn_eqR, pn_subL, pn_z, pn_add, pn_mul, pn_nat, pn_inj, pn_lt, pn_le, pn_neg, kGx_nI, kGx_L, gp_ne, gpa_ne, gp_sp, gp_sa, upd_eq, upd_ne, gq_sp, gq_sa, kGd_t, kBd_s, kOpt_s, kOpt_n, kLf_s, kAg_l, kAg_r, kAg_f, if_true, if_false, ite_true, ite_false, eq_self_iff_true, ↓reduceIte, Nat.reduceEqDiff, Nat.reduceLeDiff, Nat.reduceLT, Nat.reduceAdd, Nat.reduceMul, Nat.reduceSub, Int32.reduceLT, Int32.reduceLE, Nat.add_zero, Nat.zero_add, Nat.succ_ne_self, Nat.not_lt_zero, Nat.one_ne_zero, Nat.zero_ne_one, i01, i02, i03, i04, i10, i12, i13, i14, i20, i21, i23, i24, i30, i31, i32, i34, i40, i41, i42, i43, not_true_eq_false, not_false_eq_true, h3.2.1]
      rw [if_pos (by omega), rf_tell1]
      simp (disch := omega) only [kGd_t, kBd_s, kOpt_s, kOpt_n, kLf_s, kAg_l, kAg_r, kAg_f, if_true, if_false, ite_true, ite_false, eq_self_iff_true, ↓reduceIte, Nat.reduceEqDiff, Nat.reduceLeDiff, Nat.reduceLT, Nat.reduceAdd, Nat.reduceMul, Nat.reduceSub, Int32.reduceLT, Int32.reduceLE, Nat.add_zero, Nat.zero_add, Nat.succ_ne_self, Nat.not_lt_zero, Nat.one_ne_zero, Nat.zero_ne_one, i01, i02, i03, i04, i10, i12, i13, i14, i20, i21, i23, i24, i30, i31, i32, i34, i40, i41, i42, i43, not_true_eq_false, not_false_eq_true]
  have key : F_132 T (nI t) (nI (se S t)) M = some ((), if kd S t = 4 ∧ gp M (lMa 29) (t * 12 + ch S t) ≠ gp M (lMa 28) (se S t * 12 + ot S t) then ak M (se S t) else prM S M t) := by
    unfold F_132
    rw [rf_kind hS hR ht]
    simp (disch := omega) only [pn_mulL, pn_addL, pn_addR, pn_ltL, pn_ltR, pn_leL, pn_leR, pn_eqL, pn_eqR, pn_subL, pn_z, pn_add, pn_mul, pn_nat, pn_inj, pn_lt, pn_le, pn_neg, kGx_nI, kGx_L, kGd_t, kBd_s, kOpt_s, kOpt_n, kLf_s, kAg_l, kAg_r, kAg_f, if_true, if_false, ite_true, ite_false, eq_self_iff_true, ↓reduceIte, Nat.reduceEqDiff, Nat.reduceLeDiff, Nat.reduceLT, Nat.reduceAdd, Nat.reduceMul, Nat.reduceSub, Int32.reduceLT, Int32.reduceLE, Nat.add_zero, Nat.zero_add, Nat.succ_ne_self, Nat.not_lt_zero, Nat.one_ne_zero, Nat.zero_ne_one, i01, i02, i03, i04, i10, i12, i13, i14, i20, i21, i23, i24, i30, i31, i32, i34, i40, i41, i42, i43, not_true_eq_false, not_false_eq_true, h3.2.2.2.2.1 (by omega), h31.2.1]
    rw [if_neg (by omega)]
    by_cases k4 : kd S t = 4
    · have hj := hn.2.2.2.2.2.2.2.2.1 k4
      rw [if_pos k4, rf_t1 hS hR ht (by omega), kBd_s, rf_t2 hS hR ht (by omega), hj.2.2.1, hj.2.2.2.2.1]
      simp (disch := omega) only [pn_mulL, pn_addL, pn_addR, pn_ltL, pn_ltR, pn_leL, pn_leR, pn_eqL, pn_eqR, pn_subL, pn_z, pn_add, pn_mul, pn_nat, pn_inj, pn_lt, pn_le, pn_neg, kGx_nI, kGx_L, kGd_t, kBd_s, kOpt_s, kOpt_n, kLf_s, kAg_l, kAg_r, kAg_f, if_true, if_false, ite_true, ite_false, eq_self_iff_true, ↓reduceIte, Nat.reduceEqDiff, Nat.reduceLeDiff, Nat.reduceLT, Nat.reduceAdd, Nat.reduceMul, Nat.reduceSub, Int32.reduceLT, Int32.reduceLE, Nat.add_zero, Nat.zero_add, Nat.succ_ne_self, Nat.not_lt_zero, Nat.one_ne_zero, Nat.zero_ne_one, i01, i02, i03, i04, i10, i12, i13, i14, i20, i21, i23, i24, i30, i31, i32, i34, i40, i41, i42, i43, not_true_eq_false, not_false_eq_true]
      by_cases q : gp M (lMa 29) (t * 12 + ch S t) = gp M (lMa 28) (se S t * 12 + ot S t)
      · rw [if_pos q, k46, if_neg (fun z => z.2 q)]
      · rw [if_neg q, rf_ask, kBd_s, if_pos ⟨k4, q⟩]
    · rw [if_neg k4, k46, if_neg (fun z => k4 z.1)]
  unfold F_131
  rw [rf_kind hS hR ht, kBd_s]
  rcases h with h | h
  · rw [h] at key ⊢
    simp (disch := omega) only [pn_mulL, pn_addL, pn_addR, pn_ltL, pn_ltR, pn_leL, pn_leR, pn_eqL, pn_eqR, pn_subL, pn_z, pn_add, pn_mul, pn_nat, pn_inj, pn_lt, pn_le, pn_neg, kGx_nI, kGx_L, kGd_t, kBd_s, kOpt_s, kOpt_n, kLf_s, kAg_l, kAg_r, kAg_f, if_true, if_false, ite_true, ite_false, eq_self_iff_true, ↓reduceIte, Nat.reduceEqDiff, Nat.reduceLeDiff, Nat.reduceLT, Nat.reduceAdd, Nat.reduceMul, Nat.reduceSub, Int32.reduceLT, Int32.reduceLE, Nat.add_zero, Nat.zero_add, Nat.succ_ne_self, Nat.not_lt_zero, Nat.one_ne_zero, Nat.zero_ne_one, i01, i02, i03, i04, i10, i12, i13, i14, i20, i21, i23, i24, i30, i31, i32, i34, i40, i41, i42, i43, not_true_eq_false, not_false_eq_true, key]
  · rw [h] at key ⊢
    simp (disch := omega) only [pn_mulL, pn_addL, pn_addR, pn_ltL, pn_ltR, pn_leL, pn_leR, pn_eqL, pn_eqR, pn_subL, pn_z, pn_add, pn_mul, pn_nat, pn_inj, pn_lt, pn_le, pn_neg, kGx_nI, kGx_L, kGd_t, kBd_s, kOpt_s, kOpt_n, kLf_s, kAg_l, kAg_r, kAg_f, if_true, if_false, ite_true, ite_false, eq_self_iff_true, ↓reduceIte, Nat.reduceEqDiff, Nat.reduceLeDiff, Nat.reduceLT, Nat.reduceAdd, Nat.reduceMul, Nat.reduceSub, Int32.reduceLT, Int32.reduceLE, Nat.add_zero, Nat.zero_add, Nat.succ_ne_self, Nat.not_lt_zero, Nat.one_ne_zero, Nat.zero_ne_one, i01, i02, i03, i04, i10, i12, i13, i14, i20, i21, i23, i24, i30, i31, i32, i34, i40, i41, i42, i43, not_true_eq_false, not_false_eq_true, key]
