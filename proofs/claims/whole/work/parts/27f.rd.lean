set_option maxHeartbeats 4000000 in
theorem look_4 {T : kT} {t q a b : Nat} {C R : kM} (ht : t < 60) (htT : t < T.2) (hk : gp C (lTm t) 0 = nI 4) (hq : gp R (lMa 17) t = nI q) (hq6 : q + 3 ≤ 60) (h : kids T 4 t a b C R) (ha : 1 ≤ a) (ha12 : a ≤ 12) (hb12 : b ≤ 12) (hf : gp C (lTm t) 1 = wW R (q + 1)) (hf2 : gp C (lTm t) 2 = wW R (q + 2)) : Lok T 4 t a b q C R := by
  obtain ⟨c1, c2⟩ := cw_kids h
  have t1 : F_117 T (nI t) 1 R = some (wW R (q + 1), R) := r_told (i := 1) ht hq (by omega)
  have t2 : F_117 T (nI t) 2 R = some (wW R (q + 2), R) := r_told (i := 2) ht hq (by omega)
  have eC : F_41 T (some t) C = kBd (F_42 T (wW R (q + 1)) (nI a) C) (fun r25 M26 => if r25 = 0 then (some (0, M26)) else (kBd (F_42 T (gp M26 (lTm t) 2) (nI b) M26) (fun r29 M30 => if r29 = 0 then (some (0, M30)) else (some (nI a + nI b, M30))))) := by
    unfold F_41
    rw [kOpt_s, lv_tm htT, kGd_t, c1, kBd_s, c2, kBd_s, hk, hf]
    simp (disch := omega) only [pn_mulL, pn_addL, pn_addR, pn_ltL, pn_ltR, pn_leL, pn_leR, pn_eqL, pn_eqR, pn_subL, pn_z, pn_add, pn_mul, pn_nat, pn_inj, pn_lt, pn_le, pn_neg, kGx_nI, kGx_L, kGd_t, kBd_s, kOpt_s, kOpt_n, kLf_s, kAg_l, kAg_r, kAg_f, if_true, if_false, ite_true, ite_false, eq_self_iff_true, ↓reduceIte, Nat.reduceEqDiff, Nat.reduceLeDiff, Nat.reduceLT, Nat.reduceAdd, Nat.reduceMul, Nat.reduceSub, Int32.reduceLT, Int32.reduceLE, Nat.add_zero, Nat.zero_add, Nat.succ_ne_self, Nat.not_lt_zero, Nat.one_ne_zero, Nat.zero_ne_one, i01, i02, i03, i04, i10, i12, i13, i14, i20, i21, i23, i24, i30, i31, i32, i34, i40, i41, i42, i43, not_true_eq_false, not_false_eq_true]
  have eR : F_119 T (nI t) (nI 4) R = kBd (F_95 T (wW R (q + 1)) 0 (nI a - 1) R) (fun r14 M15 => F_119_111 T (nI t) (nI 4) (nI a) (nI b) r14 (nI a) M15) := by
    rw [lk_kids ht h]
    unfold F_119_49 F_119_74 F_119_96
    simp (disch := omega) only [pn_mulL, pn_addL, pn_addR, pn_ltL, pn_ltR, pn_leL, pn_leR, pn_eqL, pn_eqR, pn_subL, pn_z, pn_add, pn_mul, pn_nat, pn_inj, pn_lt, pn_le, pn_neg, kGx_nI, kGx_L, kGd_t, kBd_s, kOpt_s, kOpt_n, kLf_s, kAg_l, kAg_r, kAg_f, if_true, if_false, ite_true, ite_false, eq_self_iff_true, ↓reduceIte, Nat.reduceEqDiff, Nat.reduceLeDiff, Nat.reduceLT, Nat.reduceAdd, Nat.reduceMul, Nat.reduceSub, Int32.reduceLT, Int32.reduceLE, Nat.add_zero, Nat.zero_add, Nat.succ_ne_self, Nat.not_lt_zero, Nat.one_ne_zero, Nat.zero_ne_one, i01, i02, i03, i04, i10, i12, i13, i14, i20, i21, i23, i24, i30, i31, i32, i34, i40, i41, i42, i43, not_true_eq_false, not_false_eq_true]
    rw [t1, kBd_s]
  have e145 : ∀ g, F_119_145 T (nI t) (nI 4) (nI a) (nI b) g (nI a) R = F_119_291 T (nI t) g (nI (a + b)) R := by
    intro g
    unfold F_119_145 F_119_179 F_119_197 F_119_213 F_119_222 F_119_231
    simp (disch := omega) only [pn_mulL, pn_addL, pn_addR, pn_ltL, pn_ltR, pn_leL, pn_leR, pn_eqL, pn_eqR, pn_subL, pn_z, pn_add, pn_mul, pn_nat, pn_inj, pn_lt, pn_le, pn_neg, kGx_nI, kGx_L, kGd_t, kBd_s, kOpt_s, kOpt_n, kLf_s, kAg_l, kAg_r, kAg_f, if_true, if_false, ite_true, ite_false, eq_self_iff_true, ↓reduceIte, Nat.reduceEqDiff, Nat.reduceLeDiff, Nat.reduceLT, Nat.reduceAdd, Nat.reduceMul, Nat.reduceSub, Int32.reduceLT, Int32.reduceLE, Nat.add_zero, Nat.zero_add, Nat.succ_ne_self, Nat.not_lt_zero, Nat.one_ne_zero, Nat.zero_ne_one, i01, i02, i03, i04, i10, i12, i13, i14, i20, i21, i23, i24, i30, i31, i32, i34, i40, i41, i42, i43, not_true_eq_false, not_false_eq_true]
  rcases in_cases (wW R (q + 1)) a (by omega) with ⟨c, hc, e⟩ | ho
  · rw [e, F42_in hc (by omega), kBd_s, if_neg (by decide), hf2] at eC
    rw [e, F95_in hc (by omega), kBd_s] at eR
    unfold F_119_111 at eR
    rw [if_pos (show nI 4 = 4 from rfl), if_neg (by decide), t2, kBd_s] at eR
    rcases in_cases (wW R (q + 2)) b (by omega) with ⟨d, hd, e'⟩ | ho'
    · rw [e', F42_in hd (by omega), kBd_s, if_neg (by decide), pn_add] at eC
      rw [e', F95_in hd (by omega), kBd_s, if_neg (by decide), e145] at eR
      exact Or.inl ⟨a + b, fun _ => lkF_of (fun z => by omega) (fun z => by omega) (fun z => by omega) (fun _ => ⟨rfl, ⟨c, hc, e⟩, d, hd, e'⟩) (fun z => by omega) (fun z => by omega) (fun z => by omega) (fun z => by omega), fun z => by omega, by omega, by omega, eC, eR⟩
    · rw [F42_out ho', kBd_s, if_pos rfl] at eC
      rw [F95_out (by omega) ho', kBd_s, if_pos rfl, e145] at eR
      exact Or.inr ⟨a + b, eC, eR⟩
  · rw [F42_out ho, kBd_s, if_pos rfl] at eC
    rw [F95_out (by omega) ho, kBd_s] at eR
    unfold F_119_111 at eR
    rw [if_pos (show nI 4 = 4 from rfl), if_pos rfl, e145] at eR
    exact Or.inr ⟨a + b, eC, eR⟩
set_option maxHeartbeats 4000000 in
theorem look_10 {T : kT} {t q a b : Nat} {C R : kM} (ht : t < 60) (htT : t < T.2) (hk : gp C (lTm t) 0 = nI 10) (hq : gp R (lMa 17) t = nI q) (hq6 : q + 4 ≤ 60) (h : kids T 10 t a b C R) (ha : 1 ≤ a) (ha12 : a ≤ 12) (hf : gp C (lTm t) 1 = wW R (q + 1)) (hf2 : gp C (lTm t) 2 = wW R (q + 3)) : Lok T 10 t a b q C R := by
  obtain ⟨c1, c2⟩ := cw_kids h
  have t1 : F_117 T (nI t) 1 R = some (wW R (q + 1), R) := r_told (i := 1) ht hq (by omega)
  have t3 : F_117 T (nI t) 3 R = some (wW R (q + 3), R) := r_told (i := 3) ht hq (by omega)
  have eC : F_41 T (some t) C = kBd (F_42 T (wW R (q + 1)) (nI a) C) (fun r25 M26 => if r25 = 0 then (some (0, M26)) else (kBd (F_42 T (gp M26 (lTm t) 2) (nI a) M26) (fun r29 M30 => if r29 = 0 then (some (0, M30)) else (some (2, M30))))) := by
    unfold F_41
    rw [kOpt_s, lv_tm htT, kGd_t, c1, kBd_s, c2, kBd_s, hk, hf]
    simp (disch := omega) only [pn_mulL, pn_addL, pn_addR, pn_ltL, pn_ltR, pn_leL, pn_leR, pn_eqL, pn_eqR, pn_subL, pn_z, pn_add, pn_mul, pn_nat, pn_inj, pn_lt, pn_le, pn_neg, kGx_nI, kGx_L, kGd_t, kBd_s, kOpt_s, kOpt_n, kLf_s, kAg_l, kAg_r, kAg_f, if_true, if_false, ite_true, ite_false, eq_self_iff_true, ↓reduceIte, Nat.reduceEqDiff, Nat.reduceLeDiff, Nat.reduceLT, Nat.reduceAdd, Nat.reduceMul, Nat.reduceSub, Int32.reduceLT, Int32.reduceLE, Nat.add_zero, Nat.zero_add, Nat.succ_ne_self, Nat.not_lt_zero, Nat.one_ne_zero, Nat.zero_ne_one, i01, i02, i03, i04, i10, i12, i13, i14, i20, i21, i23, i24, i30, i31, i32, i34, i40, i41, i42, i43, not_true_eq_false, not_false_eq_true]
  have eR : F_119 T (nI t) (nI 10) R = kBd (F_95 T (wW R (q + 1)) 0 (nI a - 1) R) (fun r14 M15 => F_119_145 T (nI t) (nI 10) (nI a) (nI b) r14 (nI a) M15) := by
    rw [lk_kids ht h]
    unfold F_119_49 F_119_74 F_119_96 F_119_111
    simp (disch := omega) only [pn_mulL, pn_addL, pn_addR, pn_ltL, pn_ltR, pn_leL, pn_leR, pn_eqL, pn_eqR, pn_subL, pn_z, pn_add, pn_mul, pn_nat, pn_inj, pn_lt, pn_le, pn_neg, kGx_nI, kGx_L, kGd_t, kBd_s, kOpt_s, kOpt_n, kLf_s, kAg_l, kAg_r, kAg_f, if_true, if_false, ite_true, ite_false, eq_self_iff_true, ↓reduceIte, Nat.reduceEqDiff, Nat.reduceLeDiff, Nat.reduceLT, Nat.reduceAdd, Nat.reduceMul, Nat.reduceSub, Int32.reduceLT, Int32.reduceLE, Nat.add_zero, Nat.zero_add, Nat.succ_ne_self, Nat.not_lt_zero, Nat.one_ne_zero, Nat.zero_ne_one, i01, i02, i03, i04, i10, i12, i13, i14, i20, i21, i23, i24, i30, i31, i32, i34, i40, i41, i42, i43, not_true_eq_false, not_false_eq_true]
    rw [t1, kBd_s]
  have e179 : ∀ g, F_119_179 T (nI t) (nI 10) (nI a) (nI b) g (nI a) R = F_119_291 T (nI t) g (nI 2) R := by
    intro g
    unfold F_119_179 F_119_197 F_119_213 F_119_222 F_119_231
    simp (disch := omega) only [pn_mulL, pn_addL, pn_addR, pn_ltL, pn_ltR, pn_leL, pn_leR, pn_eqL, pn_eqR, pn_subL, pn_z, pn_add, pn_mul, pn_nat, pn_inj, pn_lt, pn_le, pn_neg, kGx_nI, kGx_L, kGd_t, kBd_s, kOpt_s, kOpt_n, kLf_s, kAg_l, kAg_r, kAg_f, if_true, if_false, ite_true, ite_false, eq_self_iff_true, ↓reduceIte, Nat.reduceEqDiff, Nat.reduceLeDiff, Nat.reduceLT, Nat.reduceAdd, Nat.reduceMul, Nat.reduceSub, Int32.reduceLT, Int32.reduceLE, Nat.add_zero, Nat.zero_add, Nat.succ_ne_self, Nat.not_lt_zero, Nat.one_ne_zero, Nat.zero_ne_one, i01, i02, i03, i04, i10, i12, i13, i14, i20, i21, i23, i24, i30, i31, i32, i34, i40, i41, i42, i43, not_true_eq_false, not_false_eq_true]
    rfl
  rcases in_cases (wW R (q + 1)) a (by omega) with ⟨c, hc, e⟩ | ho
  · rw [e, F42_in hc (by omega), kBd_s, if_neg (by decide), hf2] at eC
    rw [e, F95_in hc (by omega), kBd_s] at eR
    unfold F_119_145 at eR
    rw [if_pos (show nI 10 = 10 from rfl), if_neg (by decide), t3, kBd_s] at eR
    rcases in_cases (wW R (q + 3)) a (by omega) with ⟨d, hd, e'⟩ | ho'
    · rw [e', F42_in hd (by omega), kBd_s, if_neg (by decide)] at eC
      rw [e', F95_in hd (by omega), kBd_s, if_neg (by decide), e179] at eR
      exact Or.inl ⟨2, fun _ => lkF_of (fun z => by omega) (fun z => by omega) (fun z => by omega) (fun z => by omega) (fun z => by omega) (fun z => by omega) (fun z => by omega) (fun _ => ⟨rfl, ⟨c, hc, e⟩, d, hd, e'⟩), fun z => by omega, by omega, by omega, eC, eR⟩
    · rw [F42_out ho', kBd_s, if_pos rfl] at eC
      rw [F95_out (by omega) ho', kBd_s, if_pos rfl, e179] at eR
      exact Or.inr ⟨2, eC, eR⟩
  · rw [F42_out ho, kBd_s, if_pos rfl] at eC
    rw [F95_out (by omega) ho, kBd_s] at eR
    unfold F_119_145 at eR
    rw [if_pos (show nI 10 = 10 from rfl), if_pos rfl, e179] at eR
    exact Or.inr ⟨2, eC, eR⟩
def inC (a : Nat) (x : Int32) : Bool := decide (¬ x < 0 ∧ x < nI a)
set_option maxHeartbeats 4000000 in
theorem inC_t {a : Nat} {x : Int32} (ha : a < 2147483648) : inC a x = true ↔ ∃ c, c < a ∧ x = nI c := by
  unfold inC
  rw [decide_eq_true_iff]
  constructor
  · rintro ⟨h1, h2⟩
    obtain ⟨j, hj, rfl⟩ := nI_of h1
    exact ⟨j, by rwa [pn_lt (by omega) ha] at h2, rfl⟩
  · rintro ⟨c, hc, rfl⟩
    exact ⟨by rw [pn_neg (by omega)]; exact id, by rw [pn_lt (by omega) ha]; exact hc⟩
set_option maxHeartbeats 4000000 in
theorem inC_f {a : Nat} {x : Int32} (h : inC a x = false) : x < 0 ∨ nI a ≤ x := by
  unfold inC at h
  rw [decide_eq_false_iff_not] at h
  by_cases q : x < 0
  · exact Or.inl q
  · refine Or.inr ?_
    have : ¬ x < nI a := fun z => h ⟨q, z⟩
    rw [Int32.lt_iff_toInt_lt] at this
    rw [Int32.le_iff_toInt_le]; omega
set_option maxHeartbeats 4000000 in
theorem cw_picks {T : kT} {t a w : Nat} {C : kM} (htT : t < T.2) (ha : a ≤ 12) (hw8 : w ≤ 8) (h4 : gp C (lTm t) 4 = nI w) : ∀ n i, i + n = w → F_43_2 T (some t) (nI a) (nI i) C = some (cond (alB (fun i => inC a (gp C (lPk t) i)) n i) 1 0, C) := by
  intro n
  induction n with
  | zero =>
    intro i e
    rw [F_43_2_eq]
    unfold B_43_2
    rw [kOpt_s, lv_tm htT, kGd_t, h4, if_pos (by rw [pn_le (by omega) (by omega)]; omega), kAg_r]; rfl
  | succ n ih =>
    intro i e
    rw [F_43_2_eq]
    unfold B_43_2
    rw [kOpt_s, lv_tm htT, kGd_t, h4, if_neg (by rw [pn_le (by omega) (by omega)]; omega), if_neg (by rw [pn_leR _ (by omega) (by omega)]; omega), kGx_nI (by omega) (by omega), pn_nat (by omega), alB]
    cases hq : inC a (gp C (lPk t) i) with
    | true =>
      obtain ⟨c, hc, ec⟩ := (inC_t (by omega)).mp hq
      rw [ec, F42_in hc (by omega), kBd_s, if_neg (by decide), kAg_l, pn_addL, Bool.true_and]
      exact ih (i + 1) (by omega)
    | false =>
      rw [F42_out (inC_f hq), kBd_s, if_pos rfl, kAg_r, Bool.false_and]; rfl
set_option maxHeartbeats 4000000 in
theorem lk_picks {T : kT} {t q a w : Nat} {R : kM} (ht : t < 60) (hq : gp R (lMa 17) t = nI q) (hqw : q + 2 + w ≤ 60) (ha1 : 1 ≤ a) (ha : a ≤ 12) (hw8 : w ≤ 8) : ∀ n i g, i + n = w → F_119_247 T (nI t) (nI a) (cond g 1 0) (nI w) (nI i) R = F_119_291 T (nI t) (cond (g && alB (fun i => inC a (wW R (q + 2 + i))) n i) 1 0) (nI w) R := by
  intro n
  induction n with
  | zero =>
    intro i g e
    rw [F_119_247_eq]
    unfold B_119_247
    rw [if_pos (by rw [pn_le (by omega) (by omega)]; omega), kAg_f, alB, Bool.and_true]
  | succ n ih =>
    intro i g e
    rw [F_119_247_eq]
    unfold B_119_247
    rw [if_neg (by rw [pn_le (by omega) (by omega)]; omega), alB]
    cases g with
    | false =>
      rw [cond_false, if_pos rfl, kAg_l, pn_addL]
      have := ih (i + 1) false (by omega)
      rw [Bool.false_and] at this ⊢
      exact this
    | true =>
      have tt : F_117 T (nI t) (nI (2 + i)) R = some (wW R (q + (2 + i)), R) := r_told ht hq (by omega)
      rw [cond_true, if_neg (by decide), pn_addR, tt, kBd_s, Bool.true_and, show q + (2 + i) = q + 2 + i by omega]
      cases hc : inC a (wW R (q + 2 + i)) with
      | true =>
        obtain ⟨c, hc', ec⟩ := (inC_t (by omega)).mp hc
        rw [ec, F95_in hc' (by omega), kBd_s, if_neg (by decide), kAg_l, pn_addL, Bool.true_and]
        have := ih (i + 1) true (by omega)
        rw [Bool.true_and] at this
        exact this
      | false =>
        rw [F95_out (by omega) (inC_f hc), kBd_s, if_pos rfl, kAg_l, pn_addL, Bool.false_and]
        have := ih (i + 1) false (by omega)
        rw [Bool.false_and] at this
        exact this
set_option maxHeartbeats 4000000 in
theorem alB_all {p : Nat → Bool} : ∀ m k, alB p m k = true → ∀ i, k ≤ i → i < k + m → p i = true
  | 0, k, _, i, a, b => by omega
  | m + 1, k, h, i, a, b => by
    rw [alB, Bool.and_eq_true] at h
    by_cases q : i = k
    · rw [q]; exact h.1
    · exact alB_all m (k + 1) h.2 i (by omega) (by omega)
set_option maxHeartbeats 4000000 in
theorem look_2 {T : kT} {t q a b w : Nat} {C R : kM} (ht : t < 60) (htT : t < T.2) (hk : gp C (lTm t) 0 = nI 2) (hq : gp R (lMa 17) t = nI q) (hq6 : q + 2 + w ≤ 60) (h : kids T 2 t a b C R) (ha : 1 ≤ a) (ha12 : a ≤ 12) (hw1 : 1 ≤ w) (hw8 : w ≤ 8) (hw : wW R (q + 1) = nI w) (h4 : gp C (lTm t) 4 = nI w) (hp : ∀ i, i < w → gp C (lPk t) i = wW R (q + 2 + i)) : Lok T 2 t a b q C R := by
  obtain ⟨c1, c2⟩ := cw_kids h
  have t1 : F_117 T (nI t) 1 R = some (wW R (q + 1), R) := r_told (i := 1) ht hq (by omega)
  have same : alB (fun i => inC a (gp C (lPk t) i)) w 0 = alB (fun i => inC a (wW R (q + 2 + i))) w 0 := alB_congr w 0 (fun i _ hi => by rw [hp i (by omega)])
  have eC : F_41 T (some t) C = (if (cond (alB (fun i => inC a (wW R (q + 2 + i))) w 0) 1 0 : Int32) = 0 then some (0, C) else some (nI w, C)) := by
    have e43 : F_43 T (some t) (nI a) C = _ := cw_picks htT ha12 hw8 h4 w 0 (by omega)
    unfold F_41
    rw [kOpt_s, lv_tm htT, kGd_t, c1, kBd_s, c2, kBd_s, hk]
    simp (disch := omega) only [pn_mulL, pn_addL, pn_addR, pn_ltL, pn_ltR, pn_leL, pn_leR, pn_eqL, pn_eqR, pn_subL, pn_z, pn_add, pn_mul, pn_nat, pn_inj, pn_lt, pn_le, pn_neg, kGx_nI, kGx_L, kGd_t, kBd_s, kOpt_s, kOpt_n, kLf_s, kAg_l, kAg_r, kAg_f, if_true, if_false, ite_true, ite_false, eq_self_iff_true, ↓reduceIte, Nat.reduceEqDiff, Nat.reduceLeDiff, Nat.reduceLT, Nat.reduceAdd, Nat.reduceMul, Nat.reduceSub, Int32.reduceLT, Int32.reduceLE, Nat.add_zero, Nat.zero_add, Nat.succ_ne_self, Nat.not_lt_zero, Nat.one_ne_zero, Nat.zero_ne_one, i01, i02, i03, i04, i10, i12, i13, i14, i20, i21, i23, i24, i30, i31, i32, i34, i40, i41, i42, i43, not_true_eq_false, not_false_eq_true]
    rw [e43, kBd_s, same, h4]
  have eR : F_119 T (nI t) (nI 2) R = F_119_291 T (nI t) (cond (alB (fun i => inC a (wW R (q + 2 + i))) w 0) 1 0) (nI w) R := by
    have e247 := lk_picks (T := T) ht hq hq6 ha ha12 hw8 w 0 true (by omega)
    rw [Bool.true_and, cond_true] at e247
    rw [lk_kids ht h]
    unfold F_119_49 F_119_74 F_119_111 F_119_145 F_119_179 F_119_197 F_119_213 F_119_222 F_119_231
    simp (disch := omega) only [pn_mulL, pn_addL, pn_addR, pn_ltL, pn_ltR, pn_leL, pn_leR, pn_eqL, pn_eqR, pn_subL, pn_z, pn_add, pn_mul, pn_nat, pn_inj, pn_lt, pn_le, pn_neg, kGx_nI, kGx_L, kGd_t, kBd_s, kOpt_s, kOpt_n, kLf_s, kAg_l, kAg_r, kAg_f, if_true, if_false, ite_true, ite_false, eq_self_iff_true, ↓reduceIte, Nat.reduceEqDiff, Nat.reduceLeDiff, Nat.reduceLT, Nat.reduceAdd, Nat.reduceMul, Nat.reduceSub, Int32.reduceLT, Int32.reduceLE, Nat.add_zero, Nat.zero_add, Nat.succ_ne_self, Nat.not_lt_zero, Nat.one_ne_zero, Nat.zero_ne_one, i01, i02, i03, i04, i10, i12, i13, i14, i20, i21, i23, i24, i30, i31, i32, i34, i40, i41, i42, i43, not_true_eq_false, not_false_eq_true]
    rw [t1, kBd_s, hw]
    exact e247
  cases hB : alB (fun i => inC a (wW R (q + 2 + i))) w 0 with
  | true =>
    rw [hB, cond_true, if_neg (by decide)] at eC
    rw [hB, cond_true] at eR
    refine Or.inl ⟨w, fun _ => lkF_of (fun z => by omega) (fun _ => ⟨hw, fun i hi => ?_⟩) (fun z => by omega) (fun z => by omega) (fun z => by omega) (fun z => by omega) (fun z => by omega) (fun z => by omega), fun z => by omega, hw1, by omega, eC, eR⟩
    exact (inC_t (by omega)).mp (alB_all w 0 hB i (by omega) (by omega))
  | false =>
    rw [hB, cond_false, if_pos rfl] at eC
    rw [hB, cond_false] at eR
    exact Or.inr ⟨w, eC, eR⟩
set_option maxHeartbeats 4000000 in
theorem lk_291 {T : kT} {t q n : Nat} {g : Int32} {R : kM} (ht : t < 60) (hq : gp R (lMa 17) t = nI q) (hw : gp R lMo 23 = -1) (hn : g = 1 → n < 1000) (hg : g = 0 ∨ g = 1) : F_119_291 T (nI t) g (nI n) R = some ((), if g = 1 ∧ n ≤ 12 then sp R (lMa 21) t (nI n) else sp (sp R (lMa 21) t (nI n)) lMo 23 (nI q)) := by
  have e311 : F_119_311 T (nI t) (sp R (lMa 21) t (nI n)) = some ((), sp (sp R (lMa 21) t (nI n)) lMo 23 (nI q)) := by
    unfold F_119_311 F_112
    rw [kGx_nI ht (by omega), pn_nat (by omega), show gp (sp R (lMa 21) t (nI n)) lMo 23 = -1 by simp (disch := omega) only [gp_ne, gpa_ne, gp_sp, gp_sa, upd_eq, upd_ne, gq_sp, gq_sa]; exact hw, if_neg (by decide), kBd_s, show gp (sp R (lMa 21) t (nI n)) (lMa 17) t = nI q by simp (disch := omega) only [gp_ne, gpa_ne, gp_sp, gp_sa, upd_eq, upd_ne, gq_sp, gq_sa]; exact hq]
  unfold F_119_291
  rw [kGx_nI ht (by omega), pn_nat (by omega), e311]
  rcases hg with rfl | rfl
  · rw [if_pos rfl, if_neg (fun z => absurd z.1 (by decide))]
  · have hn := hn rfl
    rw [if_neg (by decide)]
    by_cases q12 : n ≤ 12
    · rw [if_pos (by rw [pn_leL _ (by omega) (by omega)]; exact q12), if_pos ⟨rfl, q12⟩]
    · rw [if_neg (by rw [pn_leL _ (by omega) (by omega)]; exact q12), if_neg (fun z => q12 z.2)]
