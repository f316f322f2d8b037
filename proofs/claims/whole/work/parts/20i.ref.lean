/-! GROUP -/
def cb (o : Nat) (x d : Int32) : Int32 := if o = 0 then x + 1 else if o = 1 then x + d else if o = 2 then (if d < x then d else x) else (if x < d then d else x)
set_option maxHeartbeats 4000000 in
theorem rf_comb {T : kT} {a k o : Nat} {d : Int32} {M : kM} (hk : k + 1 < 108000) (ho : o ≤ 3) : F_139_167 T (nI a) d (nI o) (nI k) M = some (1, ak (sp M (lMa 27) (k + 1) (cb o (gp M (lMa 27) (k + 1)) d)) a) := by
  have e63 : ∀ M, F_139_263 T (nI a) M = some (1, ak M a) := fun M => by unfold F_139_263; rw [rf_ask, kBd_s]
  unfold F_139_167 F_139_185 F_139_212 F_139_232 F_139_252
  simp (disch := omega) only [pn_mulL, pn_addL, pn_addR, pn_ltL, pn_ltR, pn_leL, pn_leR, pn_eqL, pn_eqR, pn_subL, pn_z, pn_add, pn_mul, pn_nat, pn_inj, pn_lt, pn_le, pn_neg, kGx_nI, kGx_L, e63]
  unfold cb
  by_cases o0 : o = 0
  · have o1 : ¬ o = 1 := by omega
    have o2 : ¬ o = 2 := by omega
    have o3 : ¬ o = 3 := by omega
    simp only [o0, o1, o2, o3, if_true, if_false]
    simp (disch := omega) only [kGd_t, kBd_s, kOpt_s, kOpt_n, kLf_s, kAg_l, kAg_r, kAg_f, if_true, if_false, ite_true, ite_false, eq_self_iff_true, ↓reduceIte, Nat.reduceEqDiff, Nat.reduceLeDiff, Nat.reduceLT, Nat.reduceAdd, Nat.reduceMul, Nat.reduceSub, Int32.reduceLT, Int32.reduceLE, Nat.add_zero, Nat.zero_add, Nat.succ_ne_self, Nat.not_lt_zero, Nat.one_ne_zero, Nat.zero_ne_one, i01, i02, i03, i04, i10, i12, i13, i14, i20, i21, i23, i24, i30, i31, i32, i34, i40, i41, i42, i43, not_true_eq_false, not_false_eq_true]
  have h0 : ¬ o = 0 := o0
  rw [if_neg o0, if_neg o0]
  by_cases o1 : o = 1
  · have o2 : ¬ o = 2 := by omega
    have o3 : ¬ o = 3 := by omega
    rw [if_pos o1, if_pos o1, if_neg o2, if_neg o3]
  rw [if_neg o1, if_neg o1]
  by_cases o2 : o = 2
  · have o3 : ¬ o = 3 := by omega
    rw [if_pos o2, if_pos o2, if_neg o3]
    by_cases q : d < gp M (lMa 27) (k + 1)
    · rw [if_pos q, if_pos q]
    · rw [if_neg q, if_neg q, sp_id]
  · have o3 : o = 3 := by omega
    rw [if_neg o2, if_neg o2, if_pos o3]
    by_cases q : d ≤ gp M (lMa 27) (k + 1)
    · rw [if_pos q, if_neg (by intro z; rw [Int32.lt_iff_toInt_lt] at z; rw [Int32.le_iff_toInt_le] at q; omega), sp_id]
    · rw [if_neg q, if_pos (by rw [Int32.lt_iff_toInt_lt]; rw [Int32.le_iff_toInt_le] at q; omega)]
def gri (S : kS) (M : kM) (t m : Nat) : Nat := fiB (fun i => decide (kp M t i 0 = gp M (lMa 28) ((t + 1) * 12 + ch S t))) m 0
def grN (S : kS) (M : kM) (t m : Nat) : kM := sp (sp (sp (sp M (lMa 27) (t * 1800 + m * 12) (gp M (lMa 28) ((t + 1) * 12 + ch S t))) (lMa 27) (t * 1800 + m * 12 + 1) (if hw S t ≤ 1 then 0 else gp M (lMa 28) ((t + 1) * 12 + ot S t))) (lMa 26) t (nI (m + 1))) (lMa 27) (t * 1800 + m * 12 + 1) (if hw S t = 0 then 1 else gp M (lMa 28) ((t + 1) * 12 + ot S t))
def grR (S : kS) (M : kM) (t m : Nat) : Int32 × kM :=
  if gri S M t m < m then (1, ak (sp M (lMa 27) (t * 1800 + gri S M t m * 12 + 1) (cb (hw S t) (kp M t (gri S M t m) 1) (gp M (lMa 28) ((t + 1) * 12 + ot S t)))) (t + 1))
  else if m < 60 then (1, ak (grN S M t m) (t + 1)) else (0, M)
set_option maxHeartbeats 4000000 in
theorem rf_gfind {T : kT} {S : kS} {n t m : Nat} {M : kM} {a v d o : Int32} (hS : sOk S n) (ht : t < n) (hm : gp M (lMa 26) t = nI m) (hmm : m ≤ 150) : ∀ k i, i + k = m → F_139_46 T (nI t) a v d o (nI i) M = F_139_83 T (nI t) a v d o (nI (fiB (fun i => decide (kp M t i 0 = v)) k i)) M := by
  have h1 := hS.1
  intro k
  induction k with
  | zero =>
    intro i hi
    rw [F_139_46_eq]
    unfold B_139_46
    simp (disch := omega) only [pn_mulL, pn_addL, pn_addR, pn_ltL, pn_ltR, pn_leL, pn_leR, pn_eqL, pn_eqR, pn_subL, pn_z, pn_add, pn_mul, pn_nat, pn_inj, pn_lt, pn_le, pn_neg, kGx_nI, kGx_L, hm, fiB]
    rw [if_pos (by omega), kAg_f]
  | succ k ih =>
    intro i hi
    rw [F_139_46_eq]
    unfold B_139_46
    simp (disch := omega) only [pn_mulL, pn_addL, pn_addR, pn_ltL, pn_ltR, pn_leL, pn_leR, pn_eqL, pn_eqR, pn_subL, pn_z, pn_add, pn_mul, pn_nat, pn_inj, pn_lt, pn_le, pn_neg, kGx_nI, kGx_L, hm, fiB]
    rw [if_neg (by omega), show (t * 150 + i) * 12 = t * 1800 + i * 12 + 0 by omega]
    by_cases q : gp M (lMa 27) (t * 1800 + i * 12 + 0) = v
    · rw [if_pos q, decide_eq_true q, cond_true, kAg_f]
    · rw [if_neg q, decide_eq_false q, cond_false, kAg_l]
      exact ih (i + 1) (by omega)
set_option maxHeartbeats 4000000 in
theorem rc_group {T : kT} {S : kS} {n t m : Nat} {M : kM} (hS : sOk S n) (hR : sR S n M) (ht : t < n) (h10 : kd S t = 10) (hm : gp M (lMa 26) t = nI m) (hmm : m ≤ 60) : F_131 T (nI t) (nI (t + 1)) M = some (grR S M t m) := by
  have h1 := hS.1
  have hn := nk hS ht
  have hb := hn.2.2.1 (by omega)
  have hs := hn.2.2.2.2.2.2.2.2.2.2.2.2.2.2.1 h10
  have hw1 := (nk hS hb.2.1).1.2.2.1
  have hle : gri S M t m ≤ m := by have := fiB_le (p := fun i => decide (kp M t i 0 = gp M (lMa 28) ((t + 1) * 12 + ch S t))) m 0; unfold gri; omega
  have key : F_139 T (nI t) (nI (t + 1)) M = some (grR S M t m) := by
    unfold F_139
    rw [rf_t1 hS hR ht (by omega), kBd_s, hs.2.2.1]
    simp (disch := omega) only [pn_mulL, pn_addL, pn_addR, pn_ltL, pn_ltR, pn_leL, pn_leR, pn_eqL, pn_eqR, pn_subL, pn_z, pn_add, pn_mul, pn_nat, pn_inj, pn_lt, pn_le, pn_neg, kGx_nI, kGx_L]
    rw [rf_t3 hS hR ht (by omega), kBd_s, hs.2.2.2.2.2.2.1]
    simp (disch := omega) only [pn_mulL, pn_addL, pn_addR, pn_ltL, pn_ltR, pn_leL, pn_leR, pn_eqL, pn_eqR, pn_subL, pn_z, pn_add, pn_mul, pn_nat, pn_inj, pn_lt, pn_le, pn_neg, kGx_nI, kGx_L]
    rw [rf_t2 hS hR ht (by omega), kBd_s, hs.2.2.2.2.1]
    have fnd := rf_gfind (T := T) (a := nI (t + 1)) (v := gp M (lMa 28) ((t + 1) * 12 + ch S t)) (d := gp M (lMa 28) ((t + 1) * 12 + ot S t)) (o := nI (hw S t)) hS ht hm (by omega) m 0 (by omega)
    rw [show (0 : Int32) = nI 0 from rfl, fnd]
    show F_139_83 T (nI t) (nI (t + 1)) _ _ (nI (hw S t)) (nI (gri S M t m)) M = _
    unfold F_139_83 F_134 grR
    simp (disch := omega) only [pn_mulL, pn_addL, pn_addR, pn_ltL, pn_ltR, pn_leL, pn_leR, pn_eqL, pn_eqR, pn_subL, pn_z, pn_add, pn_mul, pn_nat, pn_inj, pn_lt, pn_le, pn_neg, kGx_nI, kGx_L, hm]
    by_cases q : gri S M t m < m
    · rw [if_neg (by omega), if_pos q, show (t * 150 + gri S M t m) * 12 = t * 1800 + gri S M t m * 12 by omega, rf_comb (by omega) hs.2.2.2.2.2.1]
    · have qe : gri S M t m = m := by omega
      rw [if_pos qe, if_neg q]
      by_cases q6 : m < 60
      · rw [if_pos q6, kBd_s, if_pos rfl, if_pos q6, qe, show (t * 150 + m) * 12 = t * 1800 + m * 12 by omega]
        have h56 : ∀ s0 : Int32, F_139_156 T (nI t) (nI (t + 1)) (gp M (lMa 28) ((t + 1) * 12 + ot S t)) (nI (hw S t)) (nI (t * 1800 + m * 12)) s0 (nI (t * 1800 + m * 12 + 1)) (sp M (lMa 27) (t * 1800 + m * 12) (gp M (lMa 28) ((t + 1) * 12 + ch S t))) = some (1, ak (sp (sp (sp (sp M (lMa 27) (t * 1800 + m * 12) (gp M (lMa 28) ((t + 1) * 12 + ch S t))) (lMa 27) (t * 1800 + m * 12 + 1) s0) (lMa 26) t (nI (m + 1))) (lMa 27) (t * 1800 + m * 12 + 1) (cb (hw S t) s0 (gp M (lMa 28) ((t + 1) * 12 + ot S t)))) (t + 1)) := by
          intro s0
          unfold F_139_156
          simp (disch := omega) only [pn_mulL, pn_addL, pn_addR, pn_ltL, pn_ltR, pn_leL, pn_leR, pn_eqL, pn_eqR, pn_subL, pn_z, pn_add, pn_mul, pn_nat, pn_inj, pn_lt, pn_le, pn_neg, kGx_nI, kGx_L, gp_ne, gpa_ne, gp_sp, gp_sa, upd_eq, upd_ne, gq_sp, gq_sa, hm]
          rw [rf_comb (by omega) hs.2.2.2.2.2.1]
          simp (disch := omega) only [gp_ne, gpa_ne, gp_sp, gp_sa, upd_eq, upd_ne, gq_sp, gq_sa]
        by_cases o0 : hw S t = 0
        · rw [if_pos o0, h56]
          unfold grN cb
          simp only [if_pos (show hw S t ≤ 1 by omega), if_pos o0]; rfl
        rw [if_neg o0]
        by_cases o1 : hw S t = 1
        · rw [if_pos o1, h56]
          unfold grN cb
          simp only [if_pos (show hw S t ≤ 1 by omega), if_neg o0, if_pos o1, Int32.zero_add]
        · rw [if_neg o1, h56]
          unfold grN cb
          simp only [if_neg (show ¬ hw S t ≤ 1 by omega), if_neg o0, if_neg o1]
          have lt : ¬ gp M (lMa 28) ((t + 1) * 12 + ot S t) < gp M (lMa 28) ((t + 1) * 12 + ot S t) := by rw [Int32.lt_iff_toInt_lt]; omega
          simp only [if_neg lt]
          by_cases o2 : hw S t = 2
          · rw [if_pos o2]
          · rw [if_neg o2]
      · rw [if_neg q6, kBd_s, if_neg (by decide), if_neg q6]
  unfold F_131
  rw [rf_kind hS hR ht, kBd_s, h10]
  simp (disch := omega) only [pn_mulL, pn_addL, pn_addR, pn_ltL, pn_ltR, pn_leL, pn_leR, pn_eqL, pn_eqR, pn_subL, pn_z, pn_add, pn_mul, pn_nat, pn_inj, pn_lt, pn_le, pn_neg, kGx_nI, kGx_L, kGd_t, kBd_s, kOpt_s, kOpt_n, kLf_s, kAg_l, kAg_r, kAg_f, if_true, if_false, ite_true, ite_false, eq_self_iff_true, ↓reduceIte, Nat.reduceEqDiff, Nat.reduceLeDiff, Nat.reduceLT, Nat.reduceAdd, Nat.reduceMul, Nat.reduceSub, Int32.reduceLT, Int32.reduceLE, Nat.add_zero, Nat.zero_add, Nat.succ_ne_self, Nat.not_lt_zero, Nat.one_ne_zero, Nat.zero_ne_one, i01, i02, i03, i04, i10, i12, i13, i14, i20, i21, i23, i24, i30, i31, i32, i34, i40, i41, i42, i43, not_true_eq_false, not_false_eq_true, key]
  unfold grR
  by_cases q : gri S M t m < m
  · rw [if_pos q]; rfl
  rw [if_neg q]
  by_cases q2 : m < 60
  · rw [if_pos q2]; rfl
  · rw [if_neg q2]; rfl
