/-! the class's methods while a query runs -/
set_option maxHeartbeats 4000000 in
theorem cpy_fl (f g : Nat → Int32) (a b n : Nat) : va_cpy f g a b n = fl g b n (fun c => f (a + c)) := rfl
set_option maxHeartbeats 4000000 in
theorem kCk_t {a b c n0 n1 : Nat} (h1 : a + c ≤ n0) (h2 : b + c ≤ n1) (h3 : n0 < 2147483648) (h4 : n1 < 2147483648) : kCk (nI a) (nI b) (nI c) n0 n1 = true := by
  unfold kCk
  refine decide_eq_true ?_
  rw [pn_nat (by omega), pn_nat (by omega), pn_nat (by omega), pn_neg (by omega), pn_neg (by omega), pn_neg (by omega)]
  exact ⟨id, id, id, h1, h2⟩
set_option maxHeartbeats 4000000 in
theorem cl_copy {T : kT} {S : kS} {n a t k : Nat} {C : kM} (hS : sOk S n) (hC : sC T S n C) (ha : a < n) (ht : t < n) (hk : k + wd S a ≤ 12) : F_69 T (some a) (some t) (nI k) C = some ((), sa C (lRw t) (fl (gp C (lRw t)) k (wd S a) (fun c => gp C (lRw a) c))) := by
  have hT := hC.1
  have h3 := hC.2.2.1 a ha
  unfold F_69
  rw [kOpt_s, h3.2.2.2.2.2.1]
  simp (disch := omega) only [pn_mulL, pn_addL, pn_addR, pn_ltL, pn_ltR, pn_leL, pn_leR, pn_eqL, pn_eqR, pn_subL, pn_z, pn_add, pn_mul, pn_nat, pn_inj, pn_lt, pn_le, pn_neg, kGx_nI, kGx_L, lv_tm, kGd_t, kBd_s, kOpt_s, kOpt_n, kLf_s, kAg_l, kAg_r, kAg_f, if_true, if_false, ite_true, ite_false, eq_self_iff_true, ↓reduceIte, Nat.reduceEqDiff, Nat.reduceLeDiff, Nat.reduceLT, Nat.reduceAdd, Nat.reduceMul, Nat.reduceSub, Int32.reduceLT, Int32.reduceLE, Nat.add_zero, Nat.zero_add, Nat.succ_ne_self, Nat.not_lt_zero, Nat.one_ne_zero, Nat.zero_ne_one, i01, i02, i03, i04, i10, i12, i13, i14, i20, i21, i23, i24, i30, i31, i32, i34, i40, i41, i42, i43, not_true_eq_false, not_false_eq_true]
  rw [if_neg (by omega), show (0 : Int32) = nI 0 from rfl, kCk_t (by omega) (by omega) (by omega) (by omega), kGd_t]
  rw [cpy_fl]
  simp only [Nat.zero_add]
set_option maxHeartbeats 4000000 in
theorem cl_copy0 {T : kT} {S : kS} {n a t : Nat} {C : kM} (hS : sOk S n) (hC : sC T S n C) (ha : a < n) (ht : t < n) (hk : wd S a ≤ 12) : F_69 T (some a) (some t) 0 C = some ((), sa C (lRw t) (fl (gp C (lRw t)) 0 (wd S a) (fun c => gp C (lRw a) c))) := cl_copy (k := 0) hS hC ha ht (by omega)
set_option maxHeartbeats 4000000 in
theorem cl_val {T : kT} {S : kS} {n a c : Nat} {C : kM} (hS : sOk S n) (hC : sC T S n C) (ha : a < n) (hc : c < wd S a) : F_68 T (some a) (nI c) C = some (gp C (lRw a) c, C) := by
  have hT := hC.1
  have h3 := hC.2.2.1 a ha
  have hw := (nk hS ha).1.2.2.1
  unfold F_68
  rw [kOpt_s, h3.2.2.2.2.2.1]
  simp (disch := omega) only [pn_mulL, pn_addL, pn_addR, pn_ltL, pn_ltR, pn_leL, pn_leR, pn_eqL, pn_eqR, pn_subL, pn_z, pn_add, pn_mul, pn_nat, pn_inj, pn_lt, pn_le, pn_neg, kGx_nI, kGx_L, lv_tm, kGd_t, kBd_s, kOpt_s, kOpt_n, kLf_s, kAg_l, kAg_r, kAg_f, if_true, if_false, ite_true, ite_false, eq_self_iff_true, ↓reduceIte, Nat.reduceEqDiff, Nat.reduceLeDiff, Nat.reduceLT, Nat.reduceAdd, Nat.reduceMul, Nat.reduceSub, Int32.reduceLT, Int32.reduceLE, Nat.add_zero, Nat.zero_add, Nat.succ_ne_self, Nat.not_lt_zero, Nat.one_ne_zero, Nat.zero_ne_one, i01, i02, i03, i04, i10, i12, i13, i14, i20, i21, i23, i24, i30, i31, i32, i34, i40, i41, i42, i43, not_true_eq_false, not_false_eq_true]
  rw [if_neg (by omega), if_neg (by omega)]
set_option maxHeartbeats 4000000 in
theorem cl_so {T : kT} {x v : Int32} {h : Nat} {C : kM} (hh : h ≤ 5) : F_54 T x (nI h) v C = some (cond (soB x h v) 1 0, C) := by
  unfold F_54 soB
  simp (disch := omega) only [pn_mulL, pn_addL, pn_addR, pn_ltL, pn_ltR, pn_leL, pn_leR, pn_eqL, pn_eqR, pn_subL, pn_z, pn_add, pn_mul, pn_nat, pn_inj, pn_lt, pn_le, pn_neg, kGx_nI, kGx_L]
  by_cases c0 : h = 0
  · simp only [if_pos c0]; by_cases q : x = v
    · rw [if_pos q, decide_eq_true q]; rfl
    · rw [if_neg q, decide_eq_false q]; rfl
  simp only [if_neg c0]
  by_cases c1 : h = 1
  · simp only [if_pos c1]; by_cases q : x = v
    · rw [if_pos q, decide_eq_false (fun z => z q)]; rfl
    · rw [if_neg q, decide_eq_true q]; rfl
  simp only [if_neg c1]
  by_cases c2 : h = 2
  · simp only [if_pos c2]; by_cases q : v ≤ x
    · rw [if_pos q, decide_eq_false (fun z => z q)]; rfl
    · rw [if_neg q, decide_eq_true q]; rfl
  simp only [if_neg c2]
  by_cases c3 : h = 3
  · simp only [if_pos c3]; by_cases q : v < x
    · rw [if_pos q, decide_eq_false (fun z => z q)]; rfl
    · rw [if_neg q, decide_eq_true q]; rfl
  simp only [if_neg c3]
  by_cases c4 : h = 4
  · simp only [if_pos c4]; by_cases q : x ≤ v
    · rw [if_pos q, decide_eq_false (fun z => z q)]; rfl
    · rw [if_neg q, decide_eq_true q]; rfl
  simp only [if_neg c4]
  by_cases q : x < v
  · rw [if_pos q, decide_eq_false (fun z => z q)]; rfl
  · rw [if_neg q, decide_eq_true q]; rfl
/-! begins anew -/
def caN (S : kS) (k : Nat) (C : kM) : Prop := gp C (lTm k) 12 = 0 ∧ gp C (lTm k) 13 = 0 ∧ gp C (lTm k) 14 = 0 ∧ gp C (lTm k) 15 = 0 ∧ gp C (lKp k) 2 = nI (wd S k) ∧ gp C (lKp k) 3 = 0
set_option maxHeartbeats 4000000 in
theorem caN_fr {S : kS} {t e k : Nat} {C C' : kM} (h : frC t e C C') (hk : k < t ∨ e < k) (g : caN S k C) : caN S k C' := by
  have c := cvE_fr h hk
  unfold caN at *
  rw [c 15 (by omega) (by omega), c 18 (by omega) (by omega)]
  exact g
set_option maxHeartbeats 4000000 in
theorem cl_forget {T : kT} {S : kS} {n t : Nat} {C : kM} (hS : sOk S n) (hC : sC T S n C) (ht : t < n) : ∃ C', F_92 T t C = some ((), C') ∧ frC t t C C' ∧ sC T S n C' ∧ caN S t C' ∧ gp C' lRu = gp C lRu := by
  have hT := hC.1
  have h3 := hC.2.2.1 t ht
  unfold F_92 F_20
  simp (disch := omega) only [lv_tm, kGd_t, kBd_s, kOpt_s, kOpt_n, kLf_s, kAg_l, kAg_r, kAg_f, if_true, if_false, ite_true, ite_false, eq_self_iff_true, ↓reduceIte, Nat.reduceEqDiff, Nat.reduceLeDiff, Nat.reduceLT, Nat.reduceAdd, Nat.reduceMul, Nat.reduceSub, Int32.reduceLT, Int32.reduceLE, Nat.add_zero, Nat.zero_add, Nat.succ_ne_self, Nat.not_lt_zero, Nat.one_ne_zero, Nat.zero_ne_one, i01, i02, i03, i04, i10, i12, i13, i14, i20, i21, i23, i24, i30, i31, i32, i34, i40, i41, i42, i43, not_true_eq_false, not_false_eq_true, gp_ne, gpa_ne, gp_sp, gp_sa, upd_eq, upd_ne, gq_sp, gq_sa, h3.2.2.2.2.2.1]
  refine ⟨_, rfl, ?_, ?_, ?_, ?_⟩
  · refine frC_trans (t1 := t) (e1 := t) (t2 := t) (e2 := t) ?_ (frC_sp (by omega)) (by omega) (by omega) (by omega) (by omega)
    refine frC_trans (t1 := t) (e1 := t) (t2 := t) (e2 := t) ?_ (frC_sp (by omega)) (by omega) (by omega) (by omega) (by omega)
    refine frC_trans (t1 := t) (e1 := t) (t2 := t) (e2 := t) ?_ (frC_sp (by omega)) (by omega) (by omega) (by omega) (by omega)
    refine frC_trans (t1 := t) (e1 := t) (t2 := t) (e2 := t) ?_ (frC_sp (by omega)) (by omega) (by omega) (by omega) (by omega)
    refine frC_trans (t1 := t) (e1 := t) (t2 := t) (e2 := t) ?_ (frC_sp (by omega)) (by omega) (by omega) (by omega) (by omega)
    exact frC_sp (by omega)
  · exact sC_sp (by omega) (sC_sp (by omega) (sC_tm (by omega) (sC_tm (by omega) (sC_tm (by omega) (sC_tm (by omega) hC)))))
  · unfold caN
    simp (disch := omega) only [gp_ne, gpa_ne, gp_sp, gp_sa, upd_eq, upd_ne, gq_sp, gq_sa]
    exact ⟨trivial, trivial, trivial, trivial, trivial, trivial⟩
  · simp (disch := omega) only [gp_ne, gpa_ne, gp_sp, gp_sa, upd_eq, upd_ne, gq_sp, gq_sa]
set_option maxHeartbeats 4000000 in
theorem cl_anew {T : kT} {S : kS} {n : Nat} (hS : sOk S n) : ∀ e t d C, t < n → hg S t + 2 ≤ e → d + hg S t ≤ 9 → sC T S n C → ∃ C', F_48r T e (some t) (nI d) C = some ((), C') ∧ frC t (en S t) C C' ∧ sC T S n C' ∧ (∀ k, t ≤ k → k ≤ en S t → caN S k C') ∧ gp C' lRu = gp C lRu := by
  intro e
  induction e with
  | zero => intro t d C _ h; omega
  | succ e ih =>
    intro t d C ht he hd hC
    have hT := hC.1
    have hn := nk hS ht
    obtain ⟨C1, e1, f1, s1, k1, u1⟩ := cl_forget (T := T) hS hC ht
    have h3 := s1.2.2.1 t ht
    rw [F_48r]
    unfold F_48
    simp (disch := omega) only [pn_mulL, pn_addL, pn_addR, pn_ltL, pn_ltR, pn_leL, pn_leR, pn_eqL, pn_eqR, pn_subL, pn_z, pn_add, pn_mul, pn_nat, pn_inj, pn_lt, pn_le, pn_neg, kGx_nI, kGx_L, lv_tm, kGd_t, kBd_s, kOpt_s, kOpt_n, kLf_s, kAg_l, kAg_r, kAg_f, if_true, if_false, ite_true, ite_false, eq_self_iff_true, ↓reduceIte, Nat.reduceEqDiff, Nat.reduceLeDiff, Nat.reduceLT, Nat.reduceAdd, Nat.reduceMul, Nat.reduceSub, Int32.reduceLT, Int32.reduceLE, Nat.add_zero, Nat.zero_add, Nat.succ_ne_self, Nat.not_lt_zero, Nat.one_ne_zero, Nat.zero_ne_one, i01, i02, i03, i04, i10, i12, i13, i14, i20, i21, i23, i24, i30, i31, i32, i34, i40, i41, i42, i43, not_true_eq_false, not_false_eq_true, e1]
    rw [if_pos (by omega)]
    obtain ⟨e', rfl⟩ : ∃ e', e = e' + 1 := ⟨e - 1, by omega⟩
    have none_ok : ∀ d C, F_48r T (e' + 1) none d C = some ((), C) := fun d C => rfl
    by_cases k0 : kd S t = 0
    · have hb : ¬ bin S t := fun z => by have := z.1; omega
      rw [h3.2.2.2.2.2.2.2.2.2.2.1 k0, none_ok, kBd_s, h3.2.2.2.2.2.2.2.2.2.2.2.1 hb, none_ok, kBd_s]
      have := hn.2.1 k0
      refine ⟨C1, rfl, frC_trans f1 (frC_refl t t C1) (by omega) (by omega) (by omega) (by omega), s1, fun k a b => ?_, u1⟩
      obtain rfl : k = t := by omega
      exact k1
    · have b1 := hn.2.2.1 k0
      rw [h3.2.2.2.2.2.2.1 k0]
      obtain ⟨C2, e2, f2, s2, k2, u2⟩ := ih (t + 1) (d + 1) C1 (by omega) (by omega) (by omega) s1
      rw [e2, kBd_s]
      have k1' : caN S t C2 := caN_fr f2 (by omega) k1
      by_cases hb : bin S t
      · have b3 := hn.2.2.2.2.1 hb
        rw [(s2.2.2.1 t ht).2.2.2.2.2.2.2.1 hb]
        obtain ⟨C3, e3, f3, s3, k3, u3⟩ := ih (se S t) (d + 1) C2 (by omega) (by omega) (by omega) s2
        rw [e3, kBd_s]
        refine ⟨C3, rfl, ?_, s3, fun k a b => ?_, by rw [u3, u2, u1]⟩
        · exact frC_trans (frC_trans f1 f2 (t := t) (e := en S (t + 1)) (by omega) (by omega) (by omega) (by omega)) f3 (by omega) (by omega) (by omega) (by omega)
        · by_cases q : se S t ≤ k
          · exact k3 k q (by omega)
          · by_cases q2 : k = t
            · rw [q2]; exact caN_fr f3 (by omega) k1'
            · exact caN_fr f3 (by omega) (k2 k (by omega) (by omega))
      · rw [(s2.2.2.1 t ht).2.2.2.2.2.2.2.2.2.2.2.1 hb, none_ok, kBd_s]
        have b2 := hn.2.2.2.1 k0 hb
        refine ⟨C2, rfl, frC_trans f1 f2 (by omega) (by omega) (by omega) (by omega), s2, fun k a b => ?_, by rw [u2, u1]⟩
        by_cases q2 : k = t
        · rw [q2]; exact k1'
        · exact k2 k (by omega) (by omega)
/-- fresh in both -/
def fre (S : kS) (k : Nat) (C R : kM) : Prop := caN S k C ∧ gp R (lMa 26) k = 0 ∧ gp R (lMa 38) k = 0 ∧ gp R (lMa 39) k = 0
set_option maxHeartbeats 4000000 in
theorem nd_fresh {S : kS} {t : Nat} {C R : kM} (h : fre S t C R) : nd S t C R := by
  obtain ⟨⟨a1, a2, a3, a4, a5, a6⟩, b1, b2, b3⟩ := h
  unfold nd
  rw [a1, a2, a3, a4, b1, b2, b3]
  refine ⟨fun _ => ⟨0, by omega, rfl, rfl⟩, fun _ => ⟨0, 0, by omega, by omega, rfl, rfl, fun r a b => by omega⟩, fun _ => rfl, fun _ => rfl, fun _ => rfl, fun _ => rfl, Or.inl rfl, fun _ => ⟨0, 0, by omega, by omega, rfl, rfl, rfl, fun _ => rfl⟩, fun _ => ?_⟩
  unfold kr
  rw [a5, a6, b1]
  exact ⟨0, fun i => i, by omega, fun _ => ⟨by omega, fun _ => rfl⟩, rfl, rfl, rfl, fun i hi => by omega⟩
set_option maxHeartbeats 4000000 in
theorem lv_fresh {S : kS} {n : Nat} {C R : kM} (hS : sOk S n) : ∀ e t, t < n → hg S t < e → (∀ k, t ≤ k → k ≤ en S t → fre S k C R) → lv S C R e t ∧ pA S R e t = al S e t := by
  intro e
  induction e with
  | zero => intro t _ h; omega
  | succ e ih =>
    intro t ht he hf
    have hn := nk hS ht
    have b1 := hn.2.2.1
    have b3 := hn.2.2.2.2.1
    have f0 := hf t (by omega) hn.1.2.2.2.1
    have l39 := f0.2.2.2
    have g1 : kd S t ≠ 0 → lv S C R e (t + 1) ∧ pA S R e (t + 1) = al S e (t + 1) := fun k0 => by
      have := b1 k0
      exact ih (t + 1) (by omega) (by omega) (fun k a b => hf k (by omega) (by omega))
    have g2 : bin S t → lv S C R e (se S t) ∧ pA S R e (se S t) = al S e (se S t) := fun k0 => by
      have := b3 k0
      have := b1 (by have := k0.1; omega)
      exact ih (se S t) (by omega) (by omega) (fun k a b => hf k (by omega) (by omega))
    constructor
    · rw [lv]
      refine ⟨nd_fresh f0, fun q => (g1 (by omega)).1, fun q _ => (g1 (by omega)).1, fun q => ⟨(g1 (by omega)).1, fun z => by rw [l39] at z; exact absurd z (by decide)⟩, fun q => ⟨(g2 ⟨by omega, by omega⟩).1, fun _ => (g1 (by omega)).1⟩⟩
    · rw [pA, al, l39]
      unfold gn
      rw [f0.2.1]
      by_cases c0 : kd S t = 0 ∨ ix S t = 1
      · rw [if_pos c0, if_pos c0]
      rw [if_neg c0, if_neg c0, (g1 (by omega)).2]
      by_cases c9 : kd S t = 9
      · rw [if_pos c9, if_pos c9]; rfl
      rw [if_neg c9, if_neg c9]
      by_cases c3 : kd S t = 3 ∨ kd S t = 4
      · rw [if_pos c3, if_pos c3, if_pos rfl]; rfl
      rw [if_neg c3, if_neg c3]
      by_cases c5 : kd S t = 5
      · rw [if_pos c5, if_pos c5, if_pos rfl, (g2 ⟨by omega, by omega⟩).2]
      rw [if_neg c5, if_neg c5]
      by_cases c7 : kd S t = 7 ∨ kd S t = 10
      · rw [if_pos c7, if_pos rfl]
        show 0 + _ = _
        omega
      · rw [if_neg c7]
