/-! DISTINCT -/
abbrev kp (M : kM) (t i c : Nat) : Int32 := gp M (lMa 27) (t * 1800 + i * 12 + c)
def ikB (S : kS) (M : kM) (t i : Nat) : Bool := alB (fun c => decide (kp M t i c = gp M (lMa 28) ((t + 1) * 12 + c))) (wd S (t + 1)) 0
set_option maxHeartbeats 4000000 in
theorem rf_isk {T : kT} {S : kS} {n t i : Nat} {M : kM} (hS : sOk S n) (hR : sR S n M) (ht : t < n) (ht1 : t + 1 < n) (hi : i < 150) : ∀ m c, c + m = wd S (t + 1) → F_135_3 T (nI t) (nI i) (nI (t + 1)) (nI c) M = some (cond (alB (fun c => decide (kp M t i c = gp M (lMa 28) ((t + 1) * 12 + c))) m c) 1 0, M) := by
  have h1 := hS.1
  have h3 := hR.1 (t + 1) ht1
  have hw1 := (nk hS ht1).1.2.2.1
  intro m
  induction m with
  | zero =>
    intro c hc
    rw [F_135_3_eq]
    unfold B_135_3
    simp (disch := omega) only [pn_mulL, pn_addL, pn_addR, pn_ltL, pn_ltR, pn_leL, pn_leR, pn_eqL, pn_eqR, pn_subL, pn_z, pn_add, pn_mul, pn_nat, pn_inj, pn_lt, pn_le, pn_neg, kGx_nI, kGx_L, h3.2.1, alB]
    rw [if_pos (by omega), kAg_r]; rfl
  | succ m ih =>
    intro c hc
    rw [F_135_3_eq]
    unfold B_135_3
    simp (disch := omega) only [pn_mulL, pn_addL, pn_addR, pn_ltL, pn_ltR, pn_leL, pn_leR, pn_eqL, pn_eqR, pn_subL, pn_z, pn_add, pn_mul, pn_nat, pn_inj, pn_lt, pn_le, pn_neg, kGx_nI, kGx_L, h3.2.1, alB]
    rw [if_neg (by omega), show (t * 150 + i) * 12 + c = t * 1800 + i * 12 + c by omega]
    by_cases q : gp M (lMa 27) (t * 1800 + i * 12 + c) = gp M (lMa 28) ((t + 1) * 12 + c)
    · rw [if_pos q, kAg_l, ih (c + 1) (by omega), decide_eq_true q, Bool.true_and]
    · rw [if_neg q, kAg_r, decide_eq_false q, Bool.false_and]; rfl
set_option maxHeartbeats 4000000 in
theorem rf_lay {T : kT} {S : kS} {n t i : Nat} {M : kM} (hS : sOk S n) (hR : sR S n M) (ht : t < n) (ht1 : t + 1 < n) (hi : i < 150) : F_136 T (nI t) (nI i) (nI (t + 1)) M = some ((), sa M (lMa 27) (fl (gp M (lMa 27)) (t * 1800 + i * 12) (wd S (t + 1)) (fun c => gp M (lMa 28) ((t + 1) * 12 + c)))) := by
  have h1 := hS.1
  have h3 := hR.1 (t + 1) ht1
  have hw1 := (nk hS ht1).1.2.2.1
  unfold F_136
  refine fill (G := fun c M => F_136_3 T (nI t) (nI i) (nI (t + 1)) (nI c) M) (K := fun M => some ((), M)) (l := lMa 27) (d := t * 1800 + i * 12) (w := wd S (t + 1)) ?_ ?_
  · intro f c hc hf
    show F_136_3 T (nI t) (nI i) (nI (t + 1)) (nI c) _ = F_136_3 T (nI t) (nI i) (nI (t + 1)) (nI (c + 1)) _
    rw [F_136_3_eq]
    unfold B_136_3
    simp (disch := omega) only [pn_mulL, pn_addL, pn_addR, pn_ltL, pn_ltR, pn_leL, pn_leR, pn_eqL, pn_eqR, pn_subL, pn_z, pn_add, pn_mul, pn_nat, pn_inj, pn_lt, pn_le, pn_neg, kGx_nI, kGx_L, gp_ne, gpa_ne, gp_sp, gp_sa, upd_eq, upd_ne, gq_sp, gq_sa, kGd_t, kBd_s, kOpt_s, kOpt_n, kLf_s, kAg_l, kAg_r, kAg_f, if_true, if_false, ite_true, ite_false, eq_self_iff_true, ↓reduceIte, Nat.reduceEqDiff, Nat.reduceLeDiff, Nat.reduceLT, Nat.reduceAdd, Nat.reduceMul, Nat.reduceSub, Int32.reduceLT, Int32.reduceLE, Nat.add_zero, Nat.zero_add, Nat.succ_ne_self, Nat.not_lt_zero, Nat.one_ne_zero, Nat.zero_ne_one, i01, i02, i03, i04, i10, i12, i13, i14, i20, i21, i23, i24, i30, i31, i32, i34, i40, i41, i42, i43, not_true_eq_false, not_false_eq_true, h3.2.1]
    rw [if_neg (by omega), kAg_l, show (t * 150 + i) * 12 + c = t * 1800 + i * 12 + c by omega]
    unfold sp
    rw [sa_sa, gp_sa]
  · intro f
    show F_136_3 T (nI t) (nI i) (nI (t + 1)) (nI (wd S (t + 1))) _ = _
    rw [F_136_3_eq]
    unfold B_136_3
    simp (disch := omega) only [pn_mulL, pn_addL, pn_addR, pn_ltL, pn_ltR, pn_leL, pn_leR, pn_eqL, pn_eqR, pn_subL, pn_z, pn_add, pn_mul, pn_nat, pn_inj, pn_lt, pn_le, pn_neg, kGx_nI, kGx_L, gp_ne, gpa_ne, gp_sp, gp_sa, upd_eq, upd_ne, gq_sp, gq_sa, kGd_t, kBd_s, kOpt_s, kOpt_n, kLf_s, kAg_l, kAg_r, kAg_f, if_true, if_false, ite_true, ite_false, eq_self_iff_true, ↓reduceIte, Nat.reduceEqDiff, Nat.reduceLeDiff, Nat.reduceLT, Nat.reduceAdd, Nat.reduceMul, Nat.reduceSub, Int32.reduceLT, Int32.reduceLE, Nat.add_zero, Nat.zero_add, Nat.succ_ne_self, Nat.not_lt_zero, Nat.one_ne_zero, Nat.zero_ne_one, i01, i02, i03, i04, i10, i12, i13, i14, i20, i21, i23, i24, i30, i31, i32, i34, i40, i41, i42, i43, not_true_eq_false, not_false_eq_true, h3.2.1]
    rw [if_pos (by omega), kAg_r]
def lyM (S : kS) (M : kM) (t i : Nat) : kM := sa M (lMa 27) (fl (gp M (lMa 27)) (t * 1800 + i * 12) (wd S (t + 1)) (fun c => gp M (lMa 28) ((t + 1) * 12 + c)))
def dsR (S : kS) (M : kM) (t m : Nat) : Int32 × kM := cond (exB (ikB S M t) m 0) (1, ak M (t + 1)) (if m < 150 then (1, cpM S (sp (lyM S M t m) (lMa 26) t (nI (m + 1))) t (t + 1)) else (0, M))
set_option maxHeartbeats 4000000 in
theorem rf_keeps {T : kT} {S : kS} {n t m : Nat} {M : kM} (hS : sOk S n) (hR : sR S n M) (ht : t < n) (h6 : kd S t = 6) (hm : gp M (lMa 26) t = nI m) (hmm : m ≤ 150) : ∀ k i b, i + k = m → F_137_5 T (nI t) (nI (t + 1)) (cond b 1 0) (nI i) M = some (cond (b || exB (ikB S M t) k i) (1, ak M (t + 1)) (if m < 150 then (1, cpM S (sp (lyM S M t m) (lMa 26) t (nI (m + 1))) t (t + 1)) else (0, M))) := by
  have h1 := hS.1
  have hn := nk hS ht
  have hb := hn.2.2.1 (by omega)
  have hw1 := (nk hS hb.2.1).1.2.2.1
  intro k
  induction k with
  | zero =>
    intro i b hi
    rw [F_137_5_eq]
    unfold B_137_5 F_134
    simp (disch := omega) only [pn_mulL, pn_addL, pn_addR, pn_ltL, pn_ltR, pn_leL, pn_leR, pn_eqL, pn_eqR, pn_subL, pn_z, pn_add, pn_mul, pn_nat, pn_inj, pn_lt, pn_le, pn_neg, kGx_nI, kGx_L, hm, exB]
    rw [if_pos (by omega), Bool.or_false]
    cases b with
    | true => rw [cond_true, if_neg (by decide), rf_ask, kBd_s, kAg_r, cond_true]
    | false =>
      rw [cond_false, if_pos rfl, cond_false]
      by_cases q : m < 150
      · rw [if_pos q, kBd_s, if_pos rfl, hm, rf_lay hS hR ht hb.2.1 (by omega), kBd_s, if_pos q]
        have hm' : gp (lyM S M t m) (lMa 26) t = nI m := by unfold lyM; simp (disch := omega) only [gp_ne, gpa_ne, gp_sp, gp_sa, upd_eq, upd_ne, gq_sp, gq_sa]; exact hm
        show kAg (kBd (F_130 T (nI t) (nI (t + 1)) (sp (lyM S M t m) (lMa 26) t (gp (lyM S M t m) (lMa 26) t + 1))) _) _ = _
        have hR2 : sR S n (sp (lyM S M t m) (lMa 26) t (nI (m + 1))) := sR_mp (by omega) (sR_ma (by omega) hR)
        rw [hm', pn_addL, rf_copy hS hR2 ht hb.2.1 (by omega), kBd_s, kAg_r]
      · rw [if_neg q, kBd_s, if_neg (by decide), kAg_r, if_neg q]
  | succ k ih =>
    intro i b hi
    rw [F_137_5_eq]
    unfold B_137_5
    simp (disch := omega) only [pn_mulL, pn_addL, pn_addR, pn_ltL, pn_ltR, pn_leL, pn_leR, pn_eqL, pn_eqR, pn_subL, pn_z, pn_add, pn_mul, pn_nat, pn_inj, pn_lt, pn_le, pn_neg, kGx_nI, kGx_L, hm, exB]
    rw [if_neg (by omega)]
    cases b with
    | true =>
      rw [cond_true, if_neg (by decide), kAg_l]
      have := ih (i + 1) true (by omega)
      rw [cond_true] at this
      rw [this]; rfl
    | false =>
      rw [cond_false, if_pos rfl]
      unfold F_135
      have isk0 : F_135_3 T (nI t) (nI i) (nI (t + 1)) 0 M = _ := rf_isk hS hR ht hb.2.1 (by omega) (wd S (t + 1)) 0 (by omega)
      rw [isk0, kBd_s]
      have e : alB (fun c => decide (kp M t i c = gp M (lMa 28) ((t + 1) * 12 + c))) (wd S (t + 1)) 0 = ikB S M t i := rfl
      rw [e, Bool.false_or]
      cases q : ikB S M t i with
      | true =>
        rw [cond_true, if_neg (by decide), kAg_l]
        have := ih (i + 1) true (by omega)
        rw [cond_true] at this
        rw [this]
      | false =>
        rw [cond_false, if_pos rfl, kAg_l]
        have := ih (i + 1) false (by omega)
        rw [cond_false, Bool.false_or] at this
        rw [Bool.false_or]
        exact this
set_option maxHeartbeats 4000000 in
theorem rc_dist {T : kT} {S : kS} {n t m : Nat} {M : kM} (hS : sOk S n) (hR : sR S n M) (ht : t < n) (h6 : kd S t = 6) (hm : gp M (lMa 26) t = nI m) (hmm : m ≤ 150) : F_131 T (nI t) (nI (t + 1)) M = some (dsR S M t m) := by
  have h1 := hS.1
  have e := rf_keeps (T := T) hS hR ht h6 hm hmm m 0 false (by omega)
  rw [cond_false, Bool.false_or] at e
  unfold F_131
  rw [rf_kind hS hR ht, kBd_s, h6]
  simp (disch := omega) only [pn_mulL, pn_addL, pn_addR, pn_ltL, pn_ltR, pn_leL, pn_leR, pn_eqL, pn_eqR, pn_subL, pn_z, pn_add, pn_mul, pn_nat, pn_inj, pn_lt, pn_le, pn_neg, kGx_nI, kGx_L, kGd_t, kBd_s, kOpt_s, kOpt_n, kLf_s, kAg_l, kAg_r, kAg_f, if_true, if_false, ite_true, ite_false, eq_self_iff_true, ↓reduceIte, Nat.reduceEqDiff, Nat.reduceLeDiff, Nat.reduceLT, Nat.reduceAdd, Nat.reduceMul, Nat.reduceSub, Int32.reduceLT, Int32.reduceLE, Nat.add_zero, Nat.zero_add, Nat.succ_ne_self, Nat.not_lt_zero, Nat.one_ne_zero, Nat.zero_ne_one, i01, i02, i03, i04, i10, i12, i13, i14, i20, i21, i23, i24, i30, i31, i32, i34, i40, i41, i42, i43, not_true_eq_false, not_false_eq_true]
  unfold F_137
  rw [show F_137_5 T (nI t) (nI (t + 1)) 0 0 M = _ from e]
  unfold dsR
  cases exB (ikB S M t) m 0 with
  | true => rfl
  | false =>
  rw [cond_false]
  by_cases q2 : m < 150
  · rw [if_pos q2]; rfl
  · rw [if_neg q2]; rfl
/-! SORT -/
def ltB (h : Nat) (y x : Int32) : Bool := if h = 1 then decide (¬ x ≤ y) else decide (¬ y ≤ x)
/-- where the new row comes to stand -/
def ips (p : Nat → Bool) : Nat → Nat
  | 0 => 0
  | i + 1 => cond (p i) (ips p i) (i + 1)
set_option maxHeartbeats 4000000 in
theorem ips_le {p : Nat → Bool} : ∀ i, ips p i ≤ i
  | 0 => Nat.le_refl _
  | i + 1 => by
    rw [ips]
    cases h : p i with
    | true => rw [cond_true]; have := ips_le (p := p) i; omega
    | false => rw [cond_false]; omega
set_option maxHeartbeats 4000000 in
theorem ips_congr {p q : Nat → Bool} : ∀ i, (∀ k, k < i → p k = q k) → ips p i = ips q i
  | 0, _ => rfl
  | i + 1, h => by rw [ips, ips, h i (by omega), ips_congr i (fun k hk => h k (by omega))]
/-- rows from q on moved on by one, as far as row m -/
def shf (g : Nat → Int32) (t w q m : Nat) : Nat → Int32 := fun j => if t * 1800 + (q + 1) * 12 ≤ j ∧ j < t * 1800 + (m + 1) * 12 ∧ (j - t * 1800) % 12 < w then g (j - 12) else g j
set_option maxHeartbeats 4000000 in
theorem shf_id (g : Nat → Int32) (t w m : Nat) : shf g t w m m = g := by
  funext j
  unfold shf
  rw [if_neg (by omega)]
set_option maxHeartbeats 4000000 in
theorem shf_step {g : Nat → Int32} {t w q m : Nat} (hq : q < m) (hw : w ≤ 12) : fl (shf g t w (q + 1) m) (t * 1800 + (q + 1) * 12) w (fun c => g (t * 1800 + q * 12 + c)) = shf g t w q m := by
  funext j
  unfold fl shf
  by_cases h1 : t * 1800 + (q + 1) * 12 ≤ j ∧ j < t * 1800 + (q + 1) * 12 + w
  · rw [if_pos h1, if_pos (by omega)]
    show g (t * 1800 + q * 12 + (j - (t * 1800 + (q + 1) * 12))) = g (j - 12)
    rw [show t * 1800 + q * 12 + (j - (t * 1800 + (q + 1) * 12)) = j - 12 by omega]
  · rw [if_neg h1]
    by_cases h2 : t * 1800 + (q + 1 + 1) * 12 ≤ j ∧ j < t * 1800 + (m + 1) * 12 ∧ (j - t * 1800) % 12 < w
    · rw [if_pos h2, if_pos (by omega)]
    · rw [if_neg h2, if_neg (by omega)]
set_option maxHeartbeats 4000000 in
theorem rf_move {T : kT} {S : kS} {n t q : Nat} {M : kM} {a3 a4 a5 a7 : Int32} (hS : sOk S n) (hR : sR S n M) (ht : t < n) (ht1 : t + 1 < n) (hq : q + 1 < 150) : F_138_138 T (nI t) (nI (t + 1)) a3 a4 a5 (nI (q + 1)) a7 0 M = some (.inl (nI q, a7, sa M (lMa 27) (fl (gp M (lMa 27)) (t * 1800 + (q + 1) * 12) (wd S (t + 1)) (fun c => gp M (lMa 27) (t * 1800 + q * 12 + c))))) := by
  have h1 := hS.1
  have h3 := hR.1 (t + 1) ht1
  have hw1 := (nk hS ht1).1.2.2.1
  refine fill (G := fun c M => F_138_138 T (nI t) (nI (t + 1)) a3 a4 a5 (nI (q + 1)) a7 (nI c) M) (K := fun M => some (.inl (nI q, a7, M))) (l := lMa 27) (d := t * 1800 + (q + 1) * 12) (w := wd S (t + 1)) ?_ ?_
  · intro f c hc hf
    show F_138_138 T (nI t) (nI (t + 1)) a3 a4 a5 (nI (q + 1)) a7 (nI c) _ = F_138_138 T (nI t) (nI (t + 1)) a3 a4 a5 (nI (q + 1)) a7 (nI (c + 1)) _
    rw [F_138_138_eq]
    unfold B_138_138
    simp (disch := omega) only [pn_mulL, pn_addL, pn_addR, pn_ltL, pn_ltR, pn_leL, pn_leR, pn_eqL, pn_eqR, pn_subL, pn_z, pn_add, pn_mul, pn_nat, pn_inj, pn_lt, pn_le, pn_neg, kGx_nI, kGx_L, gp_ne, gpa_ne, gp_sp, gp_sa, upd_eq, upd_ne, gq_sp, gq_sa, kGd_t, kBd_s, kOpt_s, kOpt_n, kLf_s, kAg_l, kAg_r, kAg_f, if_true, if_false, ite_true, ite_false, eq_self_iff_true, ↓reduceIte, Nat.reduceEqDiff, Nat.reduceLeDiff, Nat.reduceLT, Nat.reduceAdd, Nat.reduceMul, Nat.reduceSub, Int32.reduceLT, Int32.reduceLE, Nat.add_zero, Nat.zero_add, Nat.succ_ne_self, Nat.not_lt_zero, Nat.one_ne_zero, Nat.zero_ne_one, i01, i02, i03, i04, i10, i12, i13, i14, i20, i21, i23, i24, i30, i31, i32, i34, i40, i41, i42, i43, not_true_eq_false, not_false_eq_true, h3.2.1]
    rw [if_neg (by omega), kAg_l, show (t * 150 + (q + 1)) * 12 + c = t * 1800 + (q + 1) * 12 + c by omega, show (t * 150 + (q + 1) - 1) * 12 + c = t * 1800 + q * 12 + c by omega, hf _ (by omega)]
    unfold sp
    rw [sa_sa, gp_sa]
  · intro f
    show F_138_138 T (nI t) (nI (t + 1)) a3 a4 a5 (nI (q + 1)) a7 (nI (wd S (t + 1))) _ = _
    rw [F_138_138_eq]
    unfold B_138_138
    simp (disch := omega) only [pn_mulL, pn_addL, pn_addR, pn_ltL, pn_ltR, pn_leL, pn_leR, pn_eqL, pn_eqR, pn_subL, pn_z, pn_add, pn_mul, pn_nat, pn_inj, pn_lt, pn_le, pn_neg, kGx_nI, kGx_L, gp_ne, gpa_ne, gp_sp, gp_sa, upd_eq, upd_ne, gq_sp, gq_sa, kGd_t, kBd_s, kOpt_s, kOpt_n, kLf_s, kAg_l, kAg_r, kAg_f, if_true, if_false, ite_true, ite_false, eq_self_iff_true, ↓reduceIte, Nat.reduceEqDiff, Nat.reduceLeDiff, Nat.reduceLT, Nat.reduceAdd, Nat.reduceMul, Nat.reduceSub, Int32.reduceLT, Int32.reduceLE, Nat.add_zero, Nat.zero_add, Nat.succ_ne_self, Nat.not_lt_zero, Nat.one_ne_zero, Nat.zero_ne_one, i01, i02, i03, i04, i10, i12, i13, i14, i20, i21, i23, i24, i30, i31, i32, i34, i40, i41, i42, i43, not_true_eq_false, not_false_eq_true, h3.2.1]
    rw [if_pos (by omega), kAg_r, pn_m1 (by omega)]; rfl
set_option maxHeartbeats 4000000 in
theorem rf_sortl {T : kT} {S : kS} {n t m : Nat} {M : kM} {x : Int32} (hS : sOk S n) (hR : sR S n M) (ht : t < n) (h7 : kd S t = 7) (hm : m < 150) : ∀ i, i ≤ m →
    F_138_61 T (nI t) (nI (t + 1)) (nI (ch S t)) (if hw S t = 1 then 1 else 0) x (nI i) 1 (sa M (lMa 27) (shf (gp M (lMa 27)) t (wd S (t + 1)) i m)) = F_138_201 T (nI t) (nI (t + 1)) (nI (ips (fun k => ltB (hw S t) (kp M t k (ch S t)) x) i)) (sa M (lMa 27) (shf (gp M (lMa 27)) t (wd S (t + 1)) (ips (fun k => ltB (hw S t) (kp M t k (ch S t)) x) i) m)) := by
  have h1 := hS.1
  have hn := nk hS ht
  have hb := hn.2.2.1 (by omega)
  have hs := hn.2.2.2.2.2.2.2.2.2.2.2.1 h7
  have hw1 := (nk hS hb.2.1).1.2.2.1
  intro i
  induction i with
  | zero =>
    intro _
    rw [F_138_61_eq]
    unfold B_138_61
    simp (disch := omega) only [pn_mulL, pn_addL, pn_addR, pn_ltL, pn_ltR, pn_leL, pn_leR, pn_eqL, pn_eqR, pn_subL, pn_z, pn_add, pn_mul, pn_nat, pn_inj, pn_lt, pn_le, pn_neg, kGx_nI, kGx_L, ips]
    rw [if_pos (by omega), kAg_f]
  | succ i ih =>
    intro hi
    have hv : gp (sa M (lMa 27) (shf (gp M (lMa 27)) t (wd S (t + 1)) (i + 1) m)) (lMa 27) (t * 1800 + i * 12 + ch S t) = kp M t i (ch S t) := by
      rw [gp_sa]; unfold shf; rw [if_neg (by omega)]
    have mv := rf_move (T := T) (q := i) (a3 := nI (ch S t)) (a4 := if hw S t = 1 then 1 else 0) (a5 := x) (a7 := 1) (M := sa M (lMa 27) (shf (gp M (lMa 27)) t (wd S (t + 1)) (i + 1) m)) hS (sR_ma (by omega) hR) ht hb.2.1 (by omega)
    have hmv : fl (gp (sa M (lMa 27) (shf (gp M (lMa 27)) t (wd S (t + 1)) (i + 1) m)) (lMa 27)) (t * 1800 + (i + 1) * 12) (wd S (t + 1)) (fun c => gp (sa M (lMa 27) (shf (gp M (lMa 27)) t (wd S (t + 1)) (i + 1) m)) (lMa 27) (t * 1800 + i * 12 + c)) = shf (gp M (lMa 27)) t (wd S (t + 1)) i m := by
      rw [gp_sa]
      refine Eq.trans ?_ (shf_step (by omega) hw1)
      funext j
      unfold fl
      by_cases q : t * 1800 + (i + 1) * 12 ≤ j ∧ j < t * 1800 + (i + 1) * 12 + wd S (t + 1)
      · rw [if_pos q, if_pos q]
        show shf (gp M (lMa 27)) t (wd S (t + 1)) (i + 1) m (t * 1800 + i * 12 + (j - (t * 1800 + (i + 1) * 12))) = _
        unfold shf
        rw [if_neg (by omega)]
      · rw [if_neg q, if_neg q]
    rw [sa_sa, hmv] at mv
    rw [F_138_61_eq]
    unfold B_138_61 F_138_125
    simp (disch := omega) only [pn_mulL, pn_addL, pn_addR, pn_ltL, pn_ltR, pn_leL, pn_leR, pn_eqL, pn_eqR, pn_subL, pn_z, pn_add, pn_mul, pn_nat, pn_inj, pn_lt, pn_le, pn_neg, kGx_nI, kGx_L, ips]
    rw [if_neg (by omega), if_neg (by decide), show (t * 150 + (i + 1) - 1) * 12 + ch S t = t * 1800 + i * 12 + ch S t by omega, hv, mv]
    unfold ltB
    by_cases c1 : hw S t = 1
    · rw [if_pos c1, if_neg (by decide), if_pos c1]
      by_cases q : x ≤ kp M t i (ch S t)
      · rw [if_pos q, decide_eq_false (fun h => h q), cond_false, if_pos trivial, kAg_l, F_138_61_eq]
        unfold B_138_61
        simp (disch := omega) only [pn_mulL, pn_addL, pn_addR, pn_ltL, pn_ltR, pn_leL, pn_leR, pn_eqL, pn_eqR, pn_subL, pn_z, pn_add, pn_mul, pn_nat, pn_inj, pn_lt, pn_le, pn_neg, kGx_nI, kGx_L]
        rw [if_neg (by omega), if_true, kAg_f]
      · have ih' := ih (by omega)
        rw [if_pos c1] at ih'
        unfold ltB at ih'
        simp only [c1, if_true] at ih' ⊢
        rw [if_neg q, decide_eq_true q, cond_true, if_neg (by decide), kAg_l]
        exact ih'
    · rw [if_neg c1, if_pos rfl, if_neg c1]
      by_cases q : kp M t i (ch S t) ≤ x
      · rw [if_pos q, decide_eq_false (fun h => h q), cond_false, if_pos trivial, kAg_l, F_138_61_eq]
        unfold B_138_61
        simp (disch := omega) only [pn_mulL, pn_addL, pn_addR, pn_ltL, pn_ltR, pn_leL, pn_leR, pn_eqL, pn_eqR, pn_subL, pn_z, pn_add, pn_mul, pn_nat, pn_inj, pn_lt, pn_le, pn_neg, kGx_nI, kGx_L]
        rw [if_neg (by omega), if_true, kAg_f]
      · have ih' := ih (by omega)
        rw [if_neg c1] at ih'
        unfold ltB at ih'
        simp only [c1, if_false] at ih' ⊢
        rw [if_neg q, decide_eq_true q, cond_true, if_neg (by decide), kAg_l]
        exact ih'
def stq (S : kS) (M : kM) (t m : Nat) : Nat := ips (fun k => ltB (hw S t) (kp M t k (ch S t)) (gp M (lMa 28) ((t + 1) * 12 + ch S t))) m
def stM (S : kS) (M : kM) (t m : Nat) : kM := ak (sp (lyM S (sa M (lMa 27) (shf (gp M (lMa 27)) t (wd S (t + 1)) (stq S M t m) m)) t (stq S M t m)) (lMa 26) t (nI (m + 1))) (t + 1)
set_option maxHeartbeats 4000000 in
theorem rc_sort {T : kT} {S : kS} {n t m : Nat} {M : kM} (hS : sOk S n) (hR : sR S n M) (ht : t < n) (h7 : kd S t = 7) (hm : gp M (lMa 26) t = nI m) (hmm : m ≤ 150) : F_131 T (nI t) (nI (t + 1)) M = some (if m < 150 then (1, stM S M t m) else (0, M)) := by
  have h1 := hS.1
  have hn := nk hS ht
  have hb := hn.2.2.1 (by omega)
  have hs := hn.2.2.2.2.2.2.2.2.2.2.2.1 h7
  have hw1 := (nk hS hb.2.1).1.2.2.1
  have k138 : F_138 T (nI t) (nI (t + 1)) M = some (if m < 150 then (1, stM S M t m) else (0, M)) := by
    unfold F_138 F_134
    simp (disch := omega) only [pn_mulL, pn_addL, pn_addR, pn_ltL, pn_ltR, pn_leL, pn_leR, pn_eqL, pn_eqR, pn_subL, pn_z, pn_add, pn_mul, pn_nat, pn_inj, pn_lt, pn_le, pn_neg, kGx_nI, kGx_L, hm]
    by_cases q : m < 150
    · rw [if_pos q, kBd_s, if_pos rfl, rf_t1 hS hR ht (by omega), kBd_s, rf_t2 hS hR ht (by omega), kBd_s, hs.2.2.1, hs.2.2.2.2.1]
      simp (disch := omega) only [pn_mulL, pn_addL, pn_addR, pn_ltL, pn_ltR, pn_leL, pn_leR, pn_eqL, pn_eqR, pn_subL, pn_z, pn_add, pn_mul, pn_nat, pn_inj, pn_lt, pn_le, pn_neg, kGx_nI, kGx_L]
      have e := rf_sortl (T := T) (M := M) (x := gp M (lMa 28) ((t + 1) * 12 + ch S t)) hS hR ht h7 q m (Nat.le_refl _)
      rw [shf_id, sa_id] at e
      have hq : stq S M t m ≤ m := ips_le m
      have e2 : F_138_35 T (nI t) (nI (t + 1)) (nI (ch S t)) (if hw S t = 1 then 1 else 0) M = some (1, stM S M t m) := by
        unfold F_138_35
        simp (disch := omega) only [pn_mulL, pn_addL, pn_addR, pn_ltL, pn_ltR, pn_leL, pn_leR, pn_eqL, pn_eqR, pn_subL, pn_z, pn_add, pn_mul, pn_nat, pn_inj, pn_lt, pn_le, pn_neg, kGx_nI, kGx_L, hm]
        rw [e]
        show F_138_201 T (nI t) (nI (t + 1)) (nI (stq S M t m)) (sa M (lMa 27) (shf (gp M (lMa 27)) t (wd S (t + 1)) (stq S M t m) m)) = _
        unfold F_138_201
        rw [rf_lay hS (sR_ma (by omega) hR) ht hb.2.1 (by omega), kBd_s]
        have hm' : gp (lyM S (sa M (lMa 27) (shf (gp M (lMa 27)) t (wd S (t + 1)) (stq S M t m) m)) t (stq S M t m)) (lMa 26) t = nI m := by unfold lyM; simp (disch := omega) only [gp_ne, gpa_ne, gp_sp, gp_sa, upd_eq, upd_ne, gq_sp, gq_sa]; exact hm
        change kGx _ _ (kGx _ _ (kBd (F_123 T (nI (t + 1)) (sp (lyM S (sa M (lMa 27) (shf (gp M (lMa 27)) t (wd S (t + 1)) (stq S M t m) m)) t (stq S M t m)) (lMa 26) (nI t).toNatClampNeg (gp (lyM S (sa M (lMa 27) (shf (gp M (lMa 27)) t (wd S (t + 1)) (stq S M t m) m)) t (stq S M t m)) (lMa 26) (nI t).toNatClampNeg + 1))) _)) = _
        simp (disch := omega) only [pn_mulL, pn_addL, pn_addR, pn_ltL, pn_ltR, pn_leL, pn_leR, pn_eqL, pn_eqR, pn_subL, pn_z, pn_add, pn_mul, pn_nat, pn_inj, pn_lt, pn_le, pn_neg, kGx_nI, kGx_L, hm', rf_ask, kGd_t, kBd_s, kOpt_s, kOpt_n, kLf_s, kAg_l, kAg_r, kAg_f, if_true, if_false, ite_true, ite_false, eq_self_iff_true, ↓reduceIte, Nat.reduceEqDiff, Nat.reduceLeDiff, Nat.reduceLT, Nat.reduceAdd, Nat.reduceMul, Nat.reduceSub, Int32.reduceLT, Int32.reduceLE, Nat.add_zero, Nat.zero_add, Nat.succ_ne_self, Nat.not_lt_zero, Nat.one_ne_zero, Nat.zero_ne_one, i01, i02, i03, i04, i10, i12, i13, i14, i20, i21, i23, i24, i30, i31, i32, i34, i40, i41, i42, i43, not_true_eq_false, not_false_eq_true]
        rfl
      by_cases c1 : hw S t = 1
      · rw [if_pos c1] at e2 ⊢
        rw [e2, if_pos q]
      · rw [if_neg c1] at e2 ⊢
        rw [e2, if_pos q]
    · rw [if_neg q, kBd_s, if_neg (by decide), if_neg q]
  unfold F_131
  rw [rf_kind hS hR ht, kBd_s, h7]
  simp (disch := omega) only [pn_mulL, pn_addL, pn_addR, pn_ltL, pn_ltR, pn_leL, pn_leR, pn_eqL, pn_eqR, pn_subL, pn_z, pn_add, pn_mul, pn_nat, pn_inj, pn_lt, pn_le, pn_neg, kGx_nI, kGx_L, kGd_t, kBd_s, kOpt_s, kOpt_n, kLf_s, kAg_l, kAg_r, kAg_f, if_true, if_false, ite_true, ite_false, eq_self_iff_true, ↓reduceIte, Nat.reduceEqDiff, Nat.reduceLeDiff, Nat.reduceLT, Nat.reduceAdd, Nat.reduceMul, Nat.reduceSub, Int32.reduceLT, Int32.reduceLE, Nat.add_zero, Nat.zero_add, Nat.succ_ne_self, Nat.not_lt_zero, Nat.one_ne_zero, Nat.zero_ne_one, i01, i02, i03, i04, i10, i12, i13, i14, i20, i21, i23, i24, i30, i31, i32, i34, i40, i41, i42, i43, not_true_eq_false, not_false_eq_true, k138]
  by_cases q : m < 150
  · rw [if_pos q]; rfl
  · rw [if_neg q]; rfl
