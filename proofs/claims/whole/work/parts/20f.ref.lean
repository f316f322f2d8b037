/-- the first row from p on that is so, or how many there are -/
def fst (S : kS) (j c : Nat) (v : Int32) : Nat → Nat → Nat
  | 0, p => p
  | m + 1, p => if ce S j p c = v then p else fst S j c v m (p + 1)
set_option maxHeartbeats 4000000 in
theorem fst_le {S : kS} {j c : Nat} {v : Int32} : ∀ m p, p ≤ fst S j c v m p ∧ fst S j c v m p ≤ p + m
  | 0, p => ⟨Nat.le_refl _, Nat.le_refl _⟩
  | m + 1, p => by
    rw [fst]
    by_cases h : ce S j p c = v
    · rw [if_pos h]; omega
    · rw [if_neg h]
      have := fst_le (S := S) (j := j) (c := c) (v := v) m (p + 1)
      omega
set_option maxHeartbeats 4000000 in
theorem fst_no {S : kS} {j c : Nat} {v : Int32} : ∀ m p r, p ≤ r → r < fst S j c v m p → ce S j r c ≠ v
  | 0, p, r, h1, h2 => by rw [fst] at h2; omega
  | m + 1, p, r, h1, h2 => by
    rw [fst] at h2
    by_cases h : ce S j p c = v
    · rw [if_pos h] at h2; omega
    · rw [if_neg h] at h2
      by_cases q : r = p
      · rw [q]; exact h
      · exact fst_no m (p + 1) r (by omega) h2
set_option maxHeartbeats 4000000 in
theorem fst_yes {S : kS} {j c : Nat} {v : Int32} : ∀ m p, fst S j c v m p < p + m → ce S j (fst S j c v m p) c = v
  | 0, p, h => by rw [fst] at h; omega
  | m + 1, p, h => by
    rw [fst] at h ⊢
    by_cases q : ce S j p c = v
    · rw [if_pos q]; exact q
    · rw [if_neg q] at h ⊢
      exact fst_yes m (p + 1) (by omega)
set_option maxHeartbeats 4000000 in
/-- skipping rows that are not so changes nothing -/
theorem fst_skip {S : kS} {j c : Nat} {v : Int32} : ∀ k m p, (∀ r, p ≤ r → r < p + k → ce S j r c ≠ v) → fst S j c v (k + m) p = fst S j c v m (p + k)
  | 0, m, p, _ => by rw [Nat.zero_add, Nat.add_zero]
  | k + 1, m, p, h => by
    rw [show k + 1 + m = (k + m) + 1 by omega, fst, if_neg (h p (by omega) (by omega)), fst_skip k m (p + 1) (fun r a b => h r (by omega) (by omega)), show p + 1 + k = p + (k + 1) by omega]
set_option maxHeartbeats 4000000 in
theorem rf_scan2 {T : kT} {S : kS} {n t : Nat} (hS : sOk S n) (ht : t < n) (hx : ix S t = 1) : ∀ m p M, sR S n M → gp M (lMa 38) t = nI p → p + m = tr S (sc S (t + 1)) →
    F_126_8 T (nI t) (nI (ch S t)) (nI (sc S (t + 1))) M = F_126_67 T (nI t) (nI (sc S (t + 1))) (sp M (lMa 38) t (nI (fst S (sc S (t + 1)) (ch S t) (vl S t) m p))) := by
  have h1 := hS.1
  have hn := nk hS ht
  have hx1 := hn.2.2.2.2.2.2.2.2.2.2.2.2.2.2.2
  rw [hx] at hx1
  have hk : kd S t = 1 ∧ hw S t = 0 ∧ kd S (t + 1) = 0 ∧ ¬td S t 4 = 0 := by
    by_cases q : kd S t = 1 ∧ hw S t = 0 ∧ kd S (t + 1) = 0 ∧ ¬td S t 4 = 0
    · exact q
    · rw [if_neg q] at hx1; cases hx1
  have hs := hn.2.2.2.2.2.1 hk.1
  have hb := hn.2.2.1 (by omega)
  have hc := (nk hS hb.2.1).2.1 hk.2.2.1
  have h2 := hS.2.1
  have htw := hS.2.2.1 _ hc.2.2.2.1
  intro m
  induction m with
  | zero =>
    intro p M hR hp hm
    have hT := hR.2 _ hc.2.2.2.1
    rw [fst, ← hp, sp_id, F_126_8_eq]
    unfold B_126_8
    simp (disch := omega) only [pn_mulL, pn_addL, pn_addR, pn_ltL, pn_ltR, pn_leL, pn_leR, pn_eqL, pn_eqR, pn_subL, pn_z, pn_add, pn_mul, pn_nat, pn_inj, pn_lt, pn_le, pn_neg, kGx_nI, kGx_L, hp, hT.2.1]
    rw [if_pos (by omega), kAg_f]
  | succ m ih =>
    intro p M hR hp hm
    have hT := hR.2 _ hc.2.2.2.1
    have t3 := rf_t3 (T := T) hS hR ht (by omega)
    rw [F_126_8_eq]
    unfold B_126_8 F_99
    simp (disch := omega) only [pn_mulL, pn_addL, pn_addR, pn_ltL, pn_ltR, pn_leL, pn_leR, pn_eqL, pn_eqR, pn_subL, pn_z, pn_add, pn_mul, pn_nat, pn_inj, pn_lt, pn_le, pn_neg, kGx_nI, kGx_L, kGd_t, kBd_s, kOpt_s, kOpt_n, kLf_s, kAg_l, kAg_r, kAg_f, if_true, if_false, ite_true, ite_false, eq_self_iff_true, ↓reduceIte, Nat.reduceEqDiff, Nat.reduceLeDiff, Nat.reduceLT, Nat.reduceAdd, Nat.reduceMul, Nat.reduceSub, Int32.reduceLT, Int32.reduceLE, Nat.add_zero, Nat.zero_add, Nat.succ_ne_self, Nat.not_lt_zero, Nat.one_ne_zero, Nat.zero_ne_one, i01, i02, i03, i04, i10, i12, i13, i14, i20, i21, i23, i24, i30, i31, i32, i34, i40, i41, i42, i43, not_true_eq_false, not_false_eq_true, hp, hT.2.1, t3]
    rw [if_neg (by omega), hs.2.2.2.2.2.2, hT.2.2 p (ch S t) (by omega) (by omega), fst]
    by_cases q : ce S (sc S (t + 1)) p (ch S t) = vl S t
    · rw [if_pos q, if_pos q, kAg_f, ← hp, sp_id]
    · rw [if_neg q, if_neg q, kAg_l]
      show F_126_8 T (nI t) (nI (ch S t)) (nI (sc S (t + 1))) (sp M (lMa 38) t (nI (p + 1))) = _
      rw [ih (p + 1) _ (sR_mp (by omega) hR) (by simp (disch := omega) only [gp_ne, gpa_ne, gp_sp, gp_sa, upd_eq, upd_ne, gq_sp, gq_sa]) (by omega)]
      unfold sp
      rw [sa_sa, gp_sa]
      congr 2
      funext j
      unfold upd
      by_cases hj : j = t
      · rw [if_pos hj, if_pos hj]
      · rw [if_neg hj, if_neg hj, if_neg hj]
set_option maxHeartbeats 4000000 in
theorem ra_ix {T : kT} {S : kS} {n t p : Nat} {M : kM} (hS : sOk S n) (hR : sR S n M) (ht : t < n) (hx : ix S t = 1) (hp : gp M (lMa 38) t = nI p) (hpm : p ≤ tr S (sc S (t + 1))) :
    F_128 T (nI t) M = some (if fst S (sc S (t + 1)) (ch S t) (vl S t) (tr S (sc S (t + 1)) - p) p = tr S (sc S (t + 1)) then (1, tl (sp M (lMa 38) t (nI (fst S (sc S (t + 1)) (ch S t) (vl S t) (tr S (sc S (t + 1)) - p) p))) t 0) else if gp M lMo 25 = 0 then (0, sp M (lMa 38) t (nI (fst S (sc S (t + 1)) (ch S t) (vl S t) (tr S (sc S (t + 1)) - p) p))) else (1, scM S (sp M (lMa 38) t (nI (fst S (sc S (t + 1)) (ch S t) (vl S t) (tr S (sc S (t + 1)) - p) p))) t (sc S (t + 1)) (fst S (sc S (t + 1)) (ch S t) (vl S t) (tr S (sc S (t + 1)) - p) p))) := by
  have h1 := hS.1
  have hn := nk hS ht
  have hx1 := hn.2.2.2.2.2.2.2.2.2.2.2.2.2.2.2
  rw [hx] at hx1
  have hk : kd S t = 1 ∧ hw S t = 0 ∧ kd S (t + 1) = 0 ∧ ¬td S t 4 = 0 := by
    by_cases q : kd S t = 1 ∧ hw S t = 0 ∧ kd S (t + 1) = 0 ∧ ¬td S t 4 = 0
    · exact q
    · rw [if_neg q] at hx1; cases hx1
  have hs := hn.2.2.2.2.2.1 hk.1
  have hb := hn.2.2.1 (by omega)
  have hc := (nk hS hb.2.1).2.1 hk.2.2.1
  have h2 := hS.2.1
  have htw := hS.2.2.1 _ hc.2.2.2.1
  have h3 := hR.1 t ht
  have fl := fst_le (S := S) (j := sc S (t + 1)) (c := ch S t) (v := vl S t) (tr S (sc S (t + 1)) - p) p
  have e1 := rf_scan1 (T := T) (t := t) (j := sc S (t + 1)) (p := fst S (sc S (t + 1)) (ch S t) (vl S t) (tr S (sc S (t + 1)) - p) p) (M := sp M (lMa 38) t (nI (fst S (sc S (t + 1)) (ch S t) (vl S t) (tr S (sc S (t + 1)) - p) p))) hS (sR_mp (by omega) hR) ht hc.2.2.2.1 (by simp (disch := omega) only [gp_ne, gpa_ne, gp_sp, gp_sa, upd_eq, upd_ne, gq_sp, gq_sa]) (by omega)
  unfold F_128
  rw [rf_kind hS hR ht, kBd_s, hk.1, rf_ix hS hR ht, kBd_s, hx]
  simp (disch := omega) only [pn_mulL, pn_addL, pn_addR, pn_ltL, pn_ltR, pn_leL, pn_leR, pn_eqL, pn_eqR, pn_subL, pn_z, pn_add, pn_mul, pn_nat, pn_inj, pn_lt, pn_le, pn_neg, kGx_nI, kGx_L, kGd_t, kBd_s, kOpt_s, kOpt_n, kLf_s, kAg_l, kAg_r, kAg_f, if_true, if_false, ite_true, ite_false, eq_self_iff_true, ↓reduceIte, Nat.reduceEqDiff, Nat.reduceLeDiff, Nat.reduceLT, Nat.reduceAdd, Nat.reduceMul, Nat.reduceSub, Int32.reduceLT, Int32.reduceLE, Nat.add_zero, Nat.zero_add, Nat.succ_ne_self, Nat.not_lt_zero, Nat.one_ne_zero, Nat.zero_ne_one, i01, i02, i03, i04, i10, i12, i13, i14, i20, i21, i23, i24, i30, i31, i32, i34, i40, i41, i42, i43, not_true_eq_false, not_false_eq_true]
  rw [rf_t1 hS hR ht (by omega), kBd_s, h3.2.2.2.2.1 (by omega), hs.2.1]
  unfold F_126
  rw [rf_t1 hS hR hb.2.1 (by omega), kBd_s, hc.2.2.1, rf_scan2 hS ht hx _ p M hR hp (show p + (tr S (sc S (t + 1)) - p) = _ by omega), e1]
  generalize fst S (sc S (t + 1)) (ch S t) (vl S t) (tr S (sc S (t + 1)) - p) p = q
  simp (disch := omega) only [gp_ne, gpa_ne, gp_sp, gp_sa, upd_eq, upd_ne, gq_sp, gq_sa]
  by_cases q1 : q = tr S (sc S (t + 1))
  · rw [if_pos q1]; rfl
  rw [if_neg q1]
  by_cases q2 : gp M lMo 25 = 0
  · rw [if_pos q2]; rfl
  rw [if_neg q2]; rfl
/-! ended -/
set_option maxHeartbeats 4000000 in
theorem re_pass {T : kT} {S : kS} {n t a : Nat} {M : kM} (hS : sOk S n) (hR : sR S n M) (ht : t < n) (h0 : kd S t ≠ 0) (ha : a < n) (h : kd S t = 1 ∨ kd S t = 2 ∨ kd S t = 6 ∨ kd S t = 8 ∨ (3 ≤ kd S t ∧ kd S t ≤ 4 ∧ a ≠ se S t) ∨ (kd S t = 5 ∧ a ≠ t + 1)) : F_129 T (nI t) (nI a) M = some ((), tl M t 0) := by
  have h1 := hS.1
  have hn := nk hS ht
  have h3 := hR.1 t ht
  have hb := hn.2.2.1 h0
  unfold F_129
  rw [rf_kind hS hR ht, kBd_s]
  have e81 : (kd S t ≠ 7 ∧ kd S t ≠ 10 ∧ kd S t ≠ 9) → F_129_81 T (nI t) (nI (kd S t)) M = some ((), tl M t 0) := by
    intro q
    have := hn.1.1
    unfold F_129_81
    simp (disch := omega) only [pn_mulL, pn_addL, pn_addR, pn_ltL, pn_ltR, pn_leL, pn_leR, pn_eqL, pn_eqR, pn_subL, pn_z, pn_add, pn_mul, pn_nat, pn_inj, pn_lt, pn_le, pn_neg, kGx_nI, kGx_L]
    rw [if_neg q.1, if_neg q.2.1, if_neg q.2.2, rf_tell0, kBd_s]
  have e81 := e81 (by omega)
  have k10 := hn.1.1
  unfold F_129_41
  simp (disch := omega) only [pn_mulL, pn_addL, pn_addR, pn_ltL, pn_ltR, pn_leL, pn_leR, pn_eqL, pn_eqR, pn_subL, pn_z, pn_add, pn_mul, pn_nat, pn_inj, pn_lt, pn_le, pn_neg, kGx_nI, kGx_L, h3.2.2.2.2.1 h0]
  by_cases k5 : kd S t = 5
  · rw [if_pos k5, if_neg (by omega), if_neg (by omega), if_neg (by omega), e81]
  rw [if_neg k5]
  by_cases k3 : kd S t = 3 ∨ kd S t = 4
  · have hb2 := hn.2.2.2.2.1 ⟨by omega, by omega⟩
    have : F_129_51 T (nI t) (nI a) (nI (kd S t)) M = some ((), tl M t 0) := by
      unfold F_129_51
      simp (disch := omega) only [pn_mulL, pn_addL, pn_addR, pn_ltL, pn_ltR, pn_leL, pn_leR, pn_eqL, pn_eqR, pn_subL, pn_z, pn_add, pn_mul, pn_nat, pn_inj, pn_lt, pn_le, pn_neg, kGx_nI, kGx_L, h3.2.2.2.2.2.1 ⟨by omega, by omega⟩]
      rw [if_neg (by omega), e81]
    rcases k3 with k3 | k3
    · rw [if_pos k3, this]
    · rw [if_neg (by omega), if_pos k3, this]
  · rw [if_neg (by omega), if_neg (by omega), e81]
set_option maxHeartbeats 4000000 in
theorem re_union {T : kT} {S : kS} {n t : Nat} {M : kM} (hS : sOk S n) (hR : sR S n M) (ht : t < n) (h : kd S t = 5) : F_129 T (nI t) (nI (t + 1)) M = some ((), ak (sp M (lMa 39) t 1) (se S t)) := by
  have h1 := hS.1
  have hn := nk hS ht
  have h3 := hR.1 t ht
  unfold F_129
  rw [rf_kind hS hR ht, kBd_s, h]
  simp (disch := omega) only [pn_mulL, pn_addL, pn_addR, pn_ltL, pn_ltR, pn_leL, pn_leR, pn_eqL, pn_eqR, pn_subL, pn_z, pn_add, pn_mul, pn_nat, pn_inj, pn_lt, pn_le, pn_neg, kGx_nI, kGx_L, kGd_t, kBd_s, kOpt_s, kOpt_n, kLf_s, kAg_l, kAg_r, kAg_f, if_true, if_false, ite_true, ite_false, eq_self_iff_true, ↓reduceIte, Nat.reduceEqDiff, Nat.reduceLeDiff, Nat.reduceLT, Nat.reduceAdd, Nat.reduceMul, Nat.reduceSub, Int32.reduceLT, Int32.reduceLE, Nat.add_zero, Nat.zero_add, Nat.succ_ne_self, Nat.not_lt_zero, Nat.one_ne_zero, Nat.zero_ne_one, i01, i02, i03, i04, i10, i12, i13, i14, i20, i21, i23, i24, i30, i31, i32, i34, i40, i41, i42, i43, not_true_eq_false, not_false_eq_true, gp_ne, gpa_ne, gp_sp, gp_sa, upd_eq, upd_ne, gq_sp, gq_sa, h3.2.2.2.2.1 (by omega), h3.2.2.2.2.2.1 ⟨by omega, by omega⟩, rf_ask]
set_option maxHeartbeats 4000000 in
theorem re_cross {T : kT} {S : kS} {n t : Nat} {M : kM} (hS : sOk S n) (hR : sR S n M) (ht : t < n) (h : kd S t = 3 ∨ kd S t = 4) : F_129 T (nI t) (nI (se S t)) M = some ((), ak (sp M (lMa 39) t 0) (t + 1)) := by
  have h1 := hS.1
  have hn := nk hS ht
  have h3 := hR.1 t ht
  have hb2 := hn.2.2.2.2.1 ⟨by omega, by omega⟩
  unfold F_129
  rw [rf_kind hS hR ht, kBd_s]
  unfold F_129_41 F_129_51
  simp (disch := omega) only [pn_mulL, pn_addL, pn_addR, pn_ltL, pn_ltR, pn_leL, pn_leR, pn_eqL, pn_eqR, pn_subL, pn_z, pn_add, pn_mul, pn_nat, pn_inj, pn_lt, pn_le, pn_neg, kGx_nI, kGx_L, kGd_t, kBd_s, kOpt_s, kOpt_n, kLf_s, kAg_l, kAg_r, kAg_f, if_true, if_false, ite_true, ite_false, eq_self_iff_true, ↓reduceIte, Nat.reduceEqDiff, Nat.reduceLeDiff, Nat.reduceLT, Nat.reduceAdd, Nat.reduceMul, Nat.reduceSub, Int32.reduceLT, Int32.reduceLE, Nat.add_zero, Nat.zero_add, Nat.succ_ne_self, Nat.not_lt_zero, Nat.one_ne_zero, Nat.zero_ne_one, i01, i02, i03, i04, i10, i12, i13, i14, i20, i21, i23, i24, i30, i31, i32, i34, i40, i41, i42, i43, not_true_eq_false, not_false_eq_true, gp_ne, gpa_ne, gp_sp, gp_sa, upd_eq, upd_ne, gq_sp, gq_sa, h3.2.2.2.2.1 (by omega), h3.2.2.2.2.2.1 ⟨by omega, by omega⟩, rf_ask]
  rw [if_neg (by omega)]
  rcases h with h | h
  · rw [if_pos h]
  · rw [if_neg (by omega), if_pos h]
set_option maxHeartbeats 4000000 in
theorem re_gath {T : kT} {S : kS} {n t a m : Nat} {M : kM} (hS : sOk S n) (hR : sR S n M) (ht : t < n) (h : kd S t = 7 ∨ kd S t = 10) (hp : gp M (lMa 38) t = nI 0) (hm : gp M (lMa 26) t = nI m) (hmm : m ≤ 150) : F_129 T (nI t) (nI a) M = some ((), if 0 < m then nxM S (sp M (lMa 39) t 1) t 0 else tl (sp (sp M (lMa 39) t 1) (lMa 38) t (nI (0 + 1))) t 0) := by
  have h1 := hS.1
  have hn := nk hS ht
  have e := rf_next (T := T) (p := 0) (M := sp M (lMa 39) t 1) hS (sR_mp (by omega) hR) ht (by simp (disch := omega) only [gp_ne, gpa_ne, gp_sp, gp_sa, upd_eq, upd_ne, gq_sp, gq_sa]; exact hp) (by simp (disch := omega) only [gp_ne, gpa_ne, gp_sp, gp_sa, upd_eq, upd_ne, gq_sp, gq_sa]; exact hm) hmm (by omega)
  unfold F_129
  rw [rf_kind hS hR ht, kBd_s]
  unfold F_129_41 F_129_81 F_129_93
  rcases h with h | h
  · rw [h]; simp (disch := omega) only [pn_mulL, pn_addL, pn_addR, pn_ltL, pn_ltR, pn_leL, pn_leR, pn_eqL, pn_eqR, pn_subL, pn_z, pn_add, pn_mul, pn_nat, pn_inj, pn_lt, pn_le, pn_neg, kGx_nI, kGx_L, kGd_t, kBd_s, kOpt_s, kOpt_n, kLf_s, kAg_l, kAg_r, kAg_f, if_true, if_false, ite_true, ite_false, eq_self_iff_true, ↓reduceIte, Nat.reduceEqDiff, Nat.reduceLeDiff, Nat.reduceLT, Nat.reduceAdd, Nat.reduceMul, Nat.reduceSub, Int32.reduceLT, Int32.reduceLE, Nat.add_zero, Nat.zero_add, Nat.succ_ne_self, Nat.not_lt_zero, Nat.one_ne_zero, Nat.zero_ne_one, i01, i02, i03, i04, i10, i12, i13, i14, i20, i21, i23, i24, i30, i31, i32, i34, i40, i41, i42, i43, not_true_eq_false, not_false_eq_true, e]
  · rw [h]; simp (disch := omega) only [pn_mulL, pn_addL, pn_addR, pn_ltL, pn_ltR, pn_leL, pn_leR, pn_eqL, pn_eqR, pn_subL, pn_z, pn_add, pn_mul, pn_nat, pn_inj, pn_lt, pn_le, pn_neg, kGx_nI, kGx_L, kGd_t, kBd_s, kOpt_s, kOpt_n, kLf_s, kAg_l, kAg_r, kAg_f, if_true, if_false, ite_true, ite_false, eq_self_iff_true, ↓reduceIte, Nat.reduceEqDiff, Nat.reduceLeDiff, Nat.reduceLT, Nat.reduceAdd, Nat.reduceMul, Nat.reduceSub, Int32.reduceLT, Int32.reduceLE, Nat.add_zero, Nat.zero_add, Nat.succ_ne_self, Nat.not_lt_zero, Nat.one_ne_zero, Nat.zero_ne_one, i01, i02, i03, i04, i10, i12, i13, i14, i20, i21, i23, i24, i30, i31, i32, i34, i40, i41, i42, i43, not_true_eq_false, not_false_eq_true, e]
set_option maxHeartbeats 4000000 in
theorem re_cnt {T : kT} {S : kS} {n t a : Nat} {M : kM} (hS : sOk S n) (hR : sR S n M) (ht : t < n) (h : kd S t = 9) : F_129 T (nI t) (nI a) M = some ((), tl (sp (sp M (lMa 39) t 1) (lMa 28) (t * 12) (gp M (lMa 26) t)) t 1) := by
  have h1 := hS.1
  have hn := nk hS ht
  unfold F_129
  rw [rf_kind hS hR ht, kBd_s]
  unfold F_129_41 F_129_81
  rw [h]; simp (disch := omega) only [pn_mulL, pn_addL, pn_addR, pn_ltL, pn_ltR, pn_leL, pn_leR, pn_eqL, pn_eqR, pn_subL, pn_z, pn_add, pn_mul, pn_nat, pn_inj, pn_lt, pn_le, pn_neg, kGx_nI, kGx_L, kGd_t, kBd_s, kOpt_s, kOpt_n, kLf_s, kAg_l, kAg_r, kAg_f, if_true, if_false, ite_true, ite_false, eq_self_iff_true, ↓reduceIte, Nat.reduceEqDiff, Nat.reduceLeDiff, Nat.reduceLT, Nat.reduceAdd, Nat.reduceMul, Nat.reduceSub, Int32.reduceLT, Int32.reduceLE, Nat.add_zero, Nat.zero_add, Nat.succ_ne_self, Nat.not_lt_zero, Nat.one_ne_zero, Nat.zero_ne_one, i01, i02, i03, i04, i10, i12, i13, i14, i20, i21, i23, i24, i30, i31, i32, i34, i40, i41, i42, i43, not_true_eq_false, not_false_eq_true, gp_ne, gpa_ne, gp_sp, gp_sa, upd_eq, upd_ne, gq_sp, gq_sa, rf_tell1]
/-! comes -/
def cpM (S : kS) (M : kM) (t a : Nat) : kM := tl (sa M (lMa 28) (fl (gp M (lMa 28)) (t * 12) (wd S t) (fun c => gp M (lMa 28) (a * 12 + c)))) t 1
set_option maxHeartbeats 4000000 in
theorem rf_copy {T : kT} {S : kS} {n t a : Nat} {M : kM} (hS : sOk S n) (hR : sR S n M) (ht : t < n) (ha : a < n) (hta : t ≠ a) : F_130 T (nI t) (nI a) M = some ((), cpM S M t a) := by
  have h1 := hS.1
  have hn := nk hS ht
  have h3 := hR.1 t ht
  have hw := hn.1.2.2.1
  unfold F_130
  refine fill (G := fun c M => F_130_2 T (nI t) (nI a) (nI c) M) (K := fun M => some ((), tl M t 1)) (l := lMa 28) (d := t * 12) (w := wd S t) ?_ ?_
  · intro f c hc hf
    show F_130_2 T (nI t) (nI a) (nI c) _ = F_130_2 T (nI t) (nI a) (nI (c + 1)) _
    rw [F_130_2_eq]
    unfold B_130_2
    simp (disch := omega) only [pn_mulL, pn_addL, pn_addR, pn_ltL, pn_ltR, pn_leL, pn_leR, pn_eqL, pn_eqR, pn_subL, pn_z, pn_add, pn_mul, pn_nat, pn_inj, pn_lt, pn_le, pn_neg, kGx_nI, kGx_L, gp_ne, gpa_ne, gp_sp, gp_sa, upd_eq, upd_ne, gq_sp, gq_sa, kGd_t, kBd_s, kOpt_s, kOpt_n, kLf_s, kAg_l, kAg_r, kAg_f, if_true, if_false, ite_true, ite_false, eq_self_iff_true, ↓reduceIte, Nat.reduceEqDiff, Nat.reduceLeDiff, Nat.reduceLT, Nat.reduceAdd, Nat.reduceMul, Nat.reduceSub, Int32.reduceLT, Int32.reduceLE, Nat.add_zero, Nat.zero_add, Nat.succ_ne_self, Nat.not_lt_zero, Nat.one_ne_zero, Nat.zero_ne_one, i01, i02, i03, i04, i10, i12, i13, i14, i20, i21, i23, i24, i30, i31, i32, i34, i40, i41, i42, i43, not_true_eq_false, not_false_eq_true, h3.2.1]
    rw [if_neg (by omega), kAg_l, hf _ (by omega)]
    unfold sp
    rw [sa_sa, gp_sa]
  · intro f
    show F_130_2 T (nI t) (nI a) (nI (wd S t)) _ = _
    rw [F_130_2_eq]
    unfold B_130_2
    simp (disch := omega) only [pn_mulL, pn_addL, pn_addR, pn_ltL, pn_ltR, pn_leL, pn_leR, pn_eqL, pn_eqR, pn_subL, pn_z, pn_add, pn_mul, pn_nat, pn_inj, pn_lt, pn_le, pn_neg, kGx_nI, kGx_L, gp_ne, gpa_ne, gp_sp, gp_sa, upd_eq, upd_ne, gq_sp, gq_sa, kGd_t, kBd_s, kOpt_s, kOpt_n, kLf_s, kAg_l, kAg_r, kAg_f, if_true, if_false, ite_true, ite_false, eq_self_iff_true, ↓reduceIte, Nat.reduceEqDiff, Nat.reduceLeDiff, Nat.reduceLT, Nat.reduceAdd, Nat.reduceMul, Nat.reduceSub, Int32.reduceLT, Int32.reduceLE, Nat.add_zero, Nat.zero_add, Nat.succ_ne_self, Nat.not_lt_zero, Nat.one_ne_zero, Nat.zero_ne_one, i01, i02, i03, i04, i10, i12, i13, i14, i20, i21, i23, i24, i30, i31, i32, i34, i40, i41, i42, i43, not_true_eq_false, not_false_eq_true, h3.2.1, rf_tell1]
    rw [if_pos (by omega)]
    simp (disch := omega) only [kGd_t, kBd_s, kOpt_s, kOpt_n, kLf_s, kAg_l, kAg_r, kAg_f, if_true, if_false, ite_true, ite_false, eq_self_iff_true, ↓reduceIte, Nat.reduceEqDiff, Nat.reduceLeDiff, Nat.reduceLT, Nat.reduceAdd, Nat.reduceMul, Nat.reduceSub, Int32.reduceLT, Int32.reduceLE, Nat.add_zero, Nat.zero_add, Nat.succ_ne_self, Nat.not_lt_zero, Nat.one_ne_zero, Nat.zero_ne_one, i01, i02, i03, i04, i10, i12, i13, i14, i20, i21, i23, i24, i30, i31, i32, i34, i40, i41, i42, i43, not_true_eq_false, not_false_eq_true]
/-- does the row of a hold for the SELECT t -/
def soB (x : Int32) (h : Nat) (v : Int32) : Bool := if h = 0 then decide (x = v) else if h = 1 then decide (¬ x = v) else if h = 2 then decide (¬ v ≤ x) else if h = 3 then decide (¬ v < x) else if h = 4 then decide (¬ x ≤ v) else decide (¬ x < v)
set_option maxHeartbeats 4000000 in
theorem rf_holds {T : kT} {S : kS} {n t : Nat} {M : kM} (hS : sOk S n) (hR : sR S n M) (ht : t < n) (h : kd S t = 1) : F_133 T (nI t) (nI (t + 1)) M = some (if soB (gp M (lMa 28) ((t + 1) * 12 + ch S t)) (hw S t) (vl S t) = true then 1 else 0, M) := by
  have h1 := hS.1
  have hn := nk hS ht
  have hs := hn.2.2.2.2.2.1 h
  have hb := hn.2.2.1 (by omega)
  have hw1 := (nk hS hb.2.1).1.2.2.1
  unfold F_133
  rw [rf_t1 hS hR ht (by omega), kBd_s, hs.2.1]
  simp (disch := omega) only [pn_mulL, pn_addL, pn_addR, pn_ltL, pn_ltR, pn_leL, pn_leR, pn_eqL, pn_eqR, pn_subL, pn_z, pn_add, pn_mul, pn_nat, pn_inj, pn_lt, pn_le, pn_neg, kGx_nI, kGx_L]
  rw [rf_t3 hS hR ht (by omega), kBd_s, rf_t2 hS hR ht (by omega), kBd_s, hs.2.2.2.2.1, hs.2.2.2.2.2.2]
  simp (disch := omega) only [pn_mulL, pn_addL, pn_addR, pn_ltL, pn_ltR, pn_leL, pn_leR, pn_eqL, pn_eqR, pn_subL, pn_z, pn_add, pn_mul, pn_nat, pn_inj, pn_lt, pn_le, pn_neg, kGx_nI, kGx_L]
  unfold soB
  generalize gp M (lMa 28) ((t + 1) * 12 + ch S t) = x
  generalize vl S t = v
  by_cases c0 : hw S t = 0
  · rw [if_pos c0, if_pos c0]; by_cases q : x = v
    · rw [if_pos q, if_pos (decide_eq_true q)]
    · rw [if_neg q, if_neg (by simpa using q)]
  rw [if_neg c0, if_neg c0]
  by_cases c1 : hw S t = 1
  · rw [if_pos c1, if_pos c1]; by_cases q : x = v
    · rw [if_pos q, if_neg (by simpa using q)]
    · rw [if_neg q, if_pos (decide_eq_true q)]
  rw [if_neg c1, if_neg c1]
  by_cases c2 : hw S t = 2
  · rw [if_pos c2, if_pos c2]; by_cases q : v ≤ x
    · rw [if_pos q, if_neg (by simpa using q)]
    · rw [if_neg q, if_pos (decide_eq_true q)]
  rw [if_neg c2, if_neg c2]
  by_cases c3 : hw S t = 3
  · rw [if_pos c3, if_pos c3]; by_cases q : v < x
    · rw [if_pos q, if_neg (by simpa using q)]
    · rw [if_neg q, if_pos (decide_eq_true q)]
  rw [if_neg c3, if_neg c3]
  by_cases c4 : hw S t = 4
  · rw [if_pos c4, if_pos c4]; by_cases q : x ≤ v
    · rw [if_pos q, if_neg (by simpa using q)]
    · rw [if_neg q, if_pos (decide_eq_true q)]
  rw [if_neg c4, if_neg c4]
  by_cases q : x < v
  · rw [if_pos q, if_neg (by simpa using q)]
  · rw [if_neg q, if_pos (decide_eq_true q)]
