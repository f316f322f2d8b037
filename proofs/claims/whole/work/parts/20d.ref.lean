/-! the reference's methods while a query runs -/
def ak (M : kM) (t : Nat) : kM := sp (sp M lMo 35 (nI t)) lMo 36 1
def tl (M : kM) (t : Nat) (b : Int32) : kM := sp (sp (sp M lMo 35 (nI t)) lMo 36 0) lMo 37 b
set_option maxHeartbeats 4000000 in
theorem rf_ask (T : kT) (t : Nat) (M : kM) : F_123 T (nI t) M = some ((), ak M t) := rfl
set_option maxHeartbeats 4000000 in
theorem rf_tell0 (T : kT) (t : Nat) (M : kM) : F_124 T (nI t) 0 M = some ((), tl M t 0) := rfl
set_option maxHeartbeats 4000000 in
theorem rf_tell1 (T : kT) (t : Nat) (M : kM) : F_124 T (nI t) 1 M = some ((), tl M t 1) := rfl
set_option maxHeartbeats 4000000 in
theorem nk {S : kS} {n t : Nat} (hS : sOk S n) (ht : t < n) : nOk S n t := hS.2.2.2 t ht
set_option maxHeartbeats 4000000 in
theorem rf_told {T : kT} {S : kS} {n t i : Nat} {M : kM} (hS : sOk S n) (hR : sR S n M) (ht : t < n) (hi : i < ow S t) : F_117 T (nI t) (nI i) M = some (td S t i, M) := by
  have h1 := hS.1
  have h2 := (nk hS ht).1.2.2.2.2.2.1
  have h3 := hR.1 t ht
  unfold F_117
  simp (disch := omega) only [pn_mulL, pn_addL, pn_addR, pn_ltL, pn_ltR, pn_leL, pn_leR, pn_eqL, pn_eqR, pn_subL, pn_z, pn_add, pn_mul, pn_nat, pn_inj, pn_lt, pn_le, pn_neg, kGx_nI, kGx_L, h3.1, h3.2.2.2.2.2.2.1 i hi]
set_option maxHeartbeats 4000000 in
theorem rf_t1 {T : kT} {S : kS} {n t : Nat} {M : kM} (hS : sOk S n) (hR : sR S n M) (ht : t < n) (hi : 1 < ow S t) : F_117 T (nI t) 1 M = some (td S t 1, M) := rf_told hS hR ht hi
set_option maxHeartbeats 4000000 in
theorem rf_t2 {T : kT} {S : kS} {n t : Nat} {M : kM} (hS : sOk S n) (hR : sR S n M) (ht : t < n) (hi : 2 < ow S t) : F_117 T (nI t) 2 M = some (td S t 2, M) := rf_told hS hR ht hi
set_option maxHeartbeats 4000000 in
theorem rf_t3 {T : kT} {S : kS} {n t : Nat} {M : kM} (hS : sOk S n) (hR : sR S n M) (ht : t < n) (hi : 3 < ow S t) : F_117 T (nI t) 3 M = some (td S t 3, M) := rf_told hS hR ht hi
set_option maxHeartbeats 4000000 in
theorem rf_kind {T : kT} {S : kS} {n t : Nat} {M : kM} (hS : sOk S n) (hR : sR S n M) (ht : t < n) : F_118 T (nI t) M = some (nI (kd S t), M) := by
  have h2 := (nk hS ht).1
  unfold F_118
  have := rf_told (T := T) (i := 0) hS hR ht (by omega)
  rw [show (0 : Int32) = nI 0 from rfl, this, kBd_s, h2.2.2.2.2.2.2.2.1]
set_option maxHeartbeats 4000000 in
theorem rf_ix {T : kT} {S : kS} {n t : Nat} {M : kM} (hS : sOk S n) (hR : sR S n M) (ht : t < n) : F_125 T (nI t) M = some (nI (ix S t), M) := by
  have hn := nk hS ht
  have h1 := hS.1
  have h3 := hR.1 t ht
  have hx := hn.2.2.2.2.2.2.2.2.2.2.2.2.2.2.2
  have a1 := hn.1.1
  unfold F_125
  rw [rf_kind hS hR ht, kBd_s]
  simp (disch := omega) only [pn_mulL, pn_addL, pn_addR, pn_ltL, pn_ltR, pn_leL, pn_leR, pn_eqL, pn_eqR, pn_subL, pn_z, pn_add, pn_mul, pn_nat, pn_inj, pn_lt, pn_le, pn_neg, kGx_nI, kGx_L]
  by_cases k1 : kd S t = 1
  · have hs := hn.2.2.2.2.2.1 k1
    have hb := hn.2.2.1 (by omega)
    have t2 := rf_t2 (T := T) hS hR ht (by omega)
    have t1 := rf_t1 (T := T) hS hR ht (by omega)
    rw [if_pos k1, t2, kBd_s, hs.2.2.2.2.1]
    simp (disch := omega) only [pn_mulL, pn_addL, pn_addR, pn_ltL, pn_ltR, pn_leL, pn_leR, pn_eqL, pn_eqR, pn_subL, pn_z, pn_add, pn_mul, pn_nat, pn_inj, pn_lt, pn_le, pn_neg, kGx_nI, kGx_L]
    by_cases k2 : hw S t = 0
    · have h4 := h3.2.2.2.2.1 (by omega)
      rw [if_pos k2, h4, rf_kind hS hR (by omega), kBd_s]
      have a2 := (nk hS hb.2.1).1.1
      simp (disch := omega) only [pn_mulL, pn_addL, pn_addR, pn_ltL, pn_ltR, pn_leL, pn_leR, pn_eqL, pn_eqR, pn_subL, pn_z, pn_add, pn_mul, pn_nat, pn_inj, pn_lt, pn_le, pn_neg, kGx_nI, kGx_L]
      by_cases k3 : kd S (t + 1) = 0
      · have hc := (nk hS hb.2.1).2.1 k3
        have t3 := rf_t1 (T := T) (t := t + 1) hS hR hb.2.1 (by omega)
        have hnt := hS.2.1
        have htw := hS.2.2.1 _ hc.2.2.2.1
        rw [if_pos (by omega), h4, t3, kBd_s, t1, kBd_s, hc.2.2.1, hs.2.1]
        simp (disch := omega) only [pn_mulL, pn_addL, pn_addR, pn_ltL, pn_ltR, pn_leL, pn_leR, pn_eqL, pn_eqR, pn_subL, pn_z, pn_add, pn_mul, pn_nat, pn_inj, pn_lt, pn_le, pn_neg, kGx_nI, kGx_L]
        rw [h3.2.2.2.2.2.2.2 k1 k3]
        by_cases k4 : td S t 4 = 0
        · rw [if_pos k4, hx, if_neg (fun z => z.2.2.2 k4)]; rfl
        · rw [if_neg k4, hx, if_pos ⟨k1, k2, k3, k4⟩]; rfl
      · rw [if_neg (by omega), hx, if_neg (by omega)]; rfl
    · rw [if_neg (by omega), hx, if_neg (by omega)]; rfl
  · rw [if_neg (by omega), hx, if_neg (by omega)]; rfl
/-- begins anew: three arrays are 0 between a and b -/
def an (a b : Nat) (M M' : kM) : Prop := M'.2 = M.2 ∧ (∀ l, l ≠ lMa 38 → l ≠ lMa 26 → l ≠ lMa 39 → gp M' l = gp M l) ∧ ∀ j, (j = 38 ∨ j = 26 ∨ j = 39) → ∀ i, gp M' (lMa j) i = if a ≤ i ∧ i < b then 0 else gp M (lMa j) i
set_option maxHeartbeats 4000000 in
theorem rf_anew_loop {T : kT} {S : kS} {n t : Nat} (hS : sOk S n) (ht : t < n) : ∀ m k M, k + m = en S t + 1 → sR S n M → ∃ M', F_122_2 T (nI t) (nI k) M = some ((), M') ∧ an k (en S t + 1) M M' := by
  have h1 := hS.1
  have h2 := (nk hS ht).1
  intro m
  induction m with
  | zero =>
    intro k M hk hR
    have h3 := hR.1 t ht
    refine ⟨M, ?_, rfl, fun _ _ _ _ => rfl, fun j _ i => by rw [if_neg (by omega)]⟩
    rw [F_122_2_eq]
    unfold B_122_2
    simp (disch := omega) only [pn_mulL, pn_addL, pn_addR, pn_ltL, pn_ltR, pn_leL, pn_leR, pn_eqL, pn_eqR, pn_subL, pn_z, pn_add, pn_mul, pn_nat, pn_inj, pn_lt, pn_le, pn_neg, kGx_nI, kGx_L, kGd_t, kBd_s, kOpt_s, kOpt_n, kLf_s, kAg_l, kAg_r, kAg_f, if_true, if_false, ite_true, ite_false, eq_self_iff_true, ↓reduceIte, Nat.reduceEqDiff, Nat.reduceLeDiff, Nat.reduceLT, Nat.reduceAdd, Nat.reduceMul, Nat.reduceSub, Int32.reduceLT, Int32.reduceLE, Nat.add_zero, Nat.zero_add, Nat.succ_ne_self, Nat.not_lt_zero, Nat.one_ne_zero, Nat.zero_ne_one, i01, i02, i03, i04, i10, i12, i13, i14, i20, i21, i23, i24, i30, i31, i32, i34, i40, i41, i42, i43, not_true_eq_false, not_false_eq_true, h3.2.2.1]
    rw [if_pos (by omega)]
    rfl
  | succ m ih =>
    intro k M hk hR
    have h3 := hR.1 t ht
    rw [F_122_2_eq]
    unfold B_122_2
    simp (disch := omega) only [pn_mulL, pn_addL, pn_addR, pn_ltL, pn_ltR, pn_leL, pn_leR, pn_eqL, pn_eqR, pn_subL, pn_z, pn_add, pn_mul, pn_nat, pn_inj, pn_lt, pn_le, pn_neg, kGx_nI, kGx_L, kGd_t, kBd_s, kOpt_s, kOpt_n, kLf_s, kAg_l, kAg_r, kAg_f, if_true, if_false, ite_true, ite_false, eq_self_iff_true, ↓reduceIte, Nat.reduceEqDiff, Nat.reduceLeDiff, Nat.reduceLT, Nat.reduceAdd, Nat.reduceMul, Nat.reduceSub, Int32.reduceLT, Int32.reduceLE, Nat.add_zero, Nat.zero_add, Nat.succ_ne_self, Nat.not_lt_zero, Nat.one_ne_zero, Nat.zero_ne_one, i01, i02, i03, i04, i10, i12, i13, i14, i20, i21, i23, i24, i30, i31, i32, i34, i40, i41, i42, i43, not_true_eq_false, not_false_eq_true, h3.2.2.1]
    rw [if_neg (by omega)]
    simp (disch := omega) only [pn_mulL, pn_addL, pn_addR, pn_ltL, pn_ltR, pn_leL, pn_leR, pn_eqL, pn_eqR, pn_subL, pn_z, pn_add, pn_mul, pn_nat, pn_inj, pn_lt, pn_le, pn_neg, kGx_nI, kGx_L, kGd_t, kBd_s, kOpt_s, kOpt_n, kLf_s, kAg_l, kAg_r, kAg_f, if_true, if_false, ite_true, ite_false, eq_self_iff_true, ↓reduceIte, Nat.reduceEqDiff, Nat.reduceLeDiff, Nat.reduceLT, Nat.reduceAdd, Nat.reduceMul, Nat.reduceSub, Int32.reduceLT, Int32.reduceLE, Nat.add_zero, Nat.zero_add, Nat.succ_ne_self, Nat.not_lt_zero, Nat.one_ne_zero, Nat.zero_ne_one, i01, i02, i03, i04, i10, i12, i13, i14, i20, i21, i23, i24, i30, i31, i32, i34, i40, i41, i42, i43, not_true_eq_false, not_false_eq_true]
    obtain ⟨M', e, x1, x2, x3⟩ := ih (k + 1) (sp (sp (sp M (lMa 38) k 0) (lMa 26) k 0) (lMa 39) k 0) (by omega) (sR_mp (by omega) (sR_mp (by omega) (sR_mp (by omega) hR)))
    refine ⟨M', e, x1, fun l a b c => ?_, fun j hj i => ?_⟩
    · rw [x2 l a b c, gp_sp_ne c, gp_sp_ne b, gp_sp_ne a]
    · rw [x3 j hj i]
      by_cases q : k + 1 ≤ i ∧ i < en S t + 1
      · rw [if_pos q, if_pos (by omega)]
      · rw [if_neg q]
        by_cases q2 : i = k
        · rw [if_pos (by omega), q2]
          rcases hj with rfl | rfl | rfl <;> simp (disch := omega) only [gp_ne, gpa_ne, gp_sp, gp_sa, upd_eq, upd_ne, gq_sp, gq_sa]
        · rw [if_neg (by omega)]
          rcases hj with rfl | rfl | rfl <;> (simp (disch := omega) only [gp_ne, gpa_ne, gp_sp, gp_sa, upd_eq, upd_ne, gq_sp, gq_sa])
set_option maxHeartbeats 4000000 in
theorem rf_anew {T : kT} {S : kS} {n t : Nat} {M : kM} (hS : sOk S n) (ht : t < n) (hR : sR S n M) : ∃ M', F_122 T (nI t) M = some ((), M') ∧ an t (en S t + 1) M M' := by
  have h2 := (nk hS ht).1
  unfold F_122
  exact rf_anew_loop hS ht _ t M (show t + (en S t + 1 - t) = _ by omega) hR
set_option maxHeartbeats 4000000 in
theorem an_fr {t e : Nat} {M M' : kM} (h : an t (e + 1) M M') : frR t e M M' := by
  have q : ∀ j, j ≠ 38 → j ≠ 26 → j ≠ 39 → gp M' (lMa j) = gp M (lMa j) := fun j a b c => h.2.1 (lMa j) (by simpa using a) (by simpa using b) (by simpa using c)
  refine ⟨h.1, fun l a b => ?_, fun k _ _ _ _ => ?_, fun k hk => ⟨?_, ?_, ?_, ?_, ?_, ?_⟩⟩
  · refine h.2.1 l ?_ ?_ ?_ <;> (intro z; rw [z] at b; simp [dy] at b)
  · rw [h.2.1 lMo (by simp) (by simp) (by simp)]
  · rw [h.2.2 26 (by omega), if_neg (by omega)]
  · rw [h.2.2 38 (by omega), if_neg (by omega)]
  · rw [h.2.2 39 (by omega), if_neg (by omega)]
  · intro c _; rw [q 28 (by omega) (by omega) (by omega)]
  · intro c _; rw [q 29 (by omega) (by omega) (by omega)]
  · intro c _; rw [q 27 (by omega) (by omega) (by omega)]
/-- the loop of step, and its end -/
noncomputable abbrev Lp (T : kT) (f : Int32) (M : kM) : Option (Int32 × kM) := F_140_59 T f (-1) M
noncomputable abbrev Lq (T : kT) (f : Int32) (h : Nat) (M : kM) : Option (Int32 × kM) := F_140_59 T f (nI h) M
set_option maxHeartbeats 4000000 in
theorem lp_ask {T : kT} {f : Int32} {t : Nat} {M M' : kM} {b : Int32} (h1 : gp M lMo 36 = 1) (h2 : gp M lMo 35 = nI t) (e : F_128 T (nI t) M = some (b, M')) : Lp T f M = if b = 0 then Lq T f 2 M' else Lp T f M' := by
  unfold Lp Lq
  rw [F_140_59_eq]
  unfold B_140_59
  rw [if_neg (by decide), h1, if_neg (by decide), h2, e, kBd_s]
  by_cases hb : b = 0
  · rw [if_pos hb, if_pos hb, kAg_l]; rfl
  · rw [if_neg hb, if_neg hb, kAg_l]
set_option maxHeartbeats 4000000 in
theorem lp_ak {T : kT} {f : Int32} {t : Nat} {M M' : kM} {b : Int32} (e : F_128 T (nI t) (ak M t) = some (b, M')) : Lp T f (ak M t) = if b = 0 then Lq T f 2 M' else Lp T f M' :=
  lp_ask rfl rfl e
set_option maxHeartbeats 4000000 in
theorem lp_tl0 {T : kT} {S : kS} {n : Nat} {f : Int32} {t : Nat} {M M' : kM} (hS : sOk S n) (hR : sR S n M) (h0 : t ≠ 0) (ht : t < n) (h2 : par S t < n) (e : F_129 T (nI (par S t)) (nI t) (tl M t 0) = some ((), M')) : Lp T f (tl M t 0) = Lp T f M' := by
  have h1 := hS.1
  unfold Lp
  rw [F_140_59_eq]
  unfold B_140_59
  have q1 : gp (tl M t 0) lMo 36 = 0 := rfl
  have q2 : gp (tl M t 0) lMo 35 = nI t := rfl
  have q3 : gp (tl M t 0) lMo 37 = 0 := rfl
  have q4 : gp (tl M t 0) (lMa 18) t = nI (par S t) := (hR.1 t ht).2.2.2.1 h0
  rw [if_neg (by decide), q1, if_pos rfl, q2, if_neg (by rw [pn_lit, pn_inj (by omega) (by omega)]; exact h0), q3, if_pos rfl]
  simp (disch := omega) only [pn_mulL, pn_addL, pn_addR, pn_ltL, pn_ltR, pn_leL, pn_leR, pn_eqL, pn_eqR, pn_subL, pn_z, pn_add, pn_mul, pn_nat, pn_inj, pn_lt, pn_le, pn_neg, kGx_nI, kGx_L, q4, e, kGd_t, kBd_s, kOpt_s, kOpt_n, kLf_s, kAg_l, kAg_r, kAg_f, if_true, if_false, ite_true, ite_false, eq_self_iff_true, ↓reduceIte, Nat.reduceEqDiff, Nat.reduceLeDiff, Nat.reduceLT, Nat.reduceAdd, Nat.reduceMul, Nat.reduceSub, Int32.reduceLT, Int32.reduceLE, Nat.add_zero, Nat.zero_add, Nat.succ_ne_self, Nat.not_lt_zero, Nat.one_ne_zero, Nat.zero_ne_one, i01, i02, i03, i04, i10, i12, i13, i14, i20, i21, i23, i24, i30, i31, i32, i34, i40, i41, i42, i43, not_true_eq_false, not_false_eq_true]
set_option maxHeartbeats 4000000 in
theorem lp_tl1 {T : kT} {S : kS} {n : Nat} {f : Int32} {t : Nat} {M M' : kM} {b : Int32} (hS : sOk S n) (hR : sR S n M) (h0 : t ≠ 0) (ht : t < n) (h2 : par S t < n) (e : F_131 T (nI (par S t)) (nI t) (tl M t 1) = some (b, M')) : Lp T f (tl M t 1) = if b = 0 then Lq T f 3 M' else Lp T f M' := by
  have h1 := hS.1
  unfold Lp Lq
  rw [F_140_59_eq]
  unfold B_140_59
  have q1 : gp (tl M t 1) lMo 36 = 0 := rfl
  have q2 : gp (tl M t 1) lMo 35 = nI t := rfl
  have q3 : gp (tl M t 1) lMo 37 = 1 := rfl
  have q4 : gp (tl M t 1) (lMa 18) t = nI (par S t) := (hR.1 t ht).2.2.2.1 h0
  rw [if_neg (by decide), q1, if_pos rfl, q2, if_neg (by rw [pn_lit, pn_inj (by omega) (by omega)]; exact h0), q3, if_neg (by decide)]
  simp (disch := omega) only [pn_mulL, pn_addL, pn_addR, pn_ltL, pn_ltR, pn_leL, pn_leR, pn_eqL, pn_eqR, pn_subL, pn_z, pn_add, pn_mul, pn_nat, pn_inj, pn_lt, pn_le, pn_neg, kGx_nI, kGx_L, q4, e, kGd_t, kBd_s, kOpt_s, kOpt_n, kLf_s, kAg_l, kAg_r, kAg_f, if_true, if_false, ite_true, ite_false, eq_self_iff_true, ↓reduceIte, Nat.reduceEqDiff, Nat.reduceLeDiff, Nat.reduceLT, Nat.reduceAdd, Nat.reduceMul, Nat.reduceSub, Int32.reduceLT, Int32.reduceLE, Nat.add_zero, Nat.zero_add, Nat.succ_ne_self, Nat.not_lt_zero, Nat.one_ne_zero, Nat.zero_ne_one, i01, i02, i03, i04, i10, i12, i13, i14, i20, i21, i23, i24, i30, i31, i32, i34, i40, i41, i42, i43, not_true_eq_false, not_false_eq_true]
  by_cases hb : b = 0
  · rw [if_pos hb, if_pos hb, kAg_l]; rfl
  · rw [if_neg hb, if_neg hb, kAg_l]
