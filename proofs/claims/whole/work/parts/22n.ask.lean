set_option maxHeartbeats 4000000 in
theorem e49_34 {T : kT} {S : kS} {E t d : Nat} {C : kM} (hT : t < T.2) (hd : d < 10) (hk : k34 S t) (h : gp C (lTm t) 0 = nI (kd S t)) : F_49r T (E + 1) (some t) (nI d) C = F_56_2 T (F_49r T E) (some t) (nI d) (nI 0) C := by
  rw [F_49r]
  unfold F_49 F_56
  rw [kOpt_s, h, if_pos (by simp (disch := omega) only [pn_mulL, pn_addL, pn_addR, pn_ltL, pn_ltR, pn_leL, pn_leR, pn_eqL, pn_eqR, pn_subL, pn_z, pn_add, pn_mul, pn_nat, pn_inj, pn_lt, pn_le, pn_neg, kGx_nI, kGx_L]; omega)]
  unfold k34 at hk
  rcases hk with hk | hk
  · rw [hk]
    simp (disch := omega) only [pn_mulL, pn_addL, pn_addR, pn_ltL, pn_ltR, pn_leL, pn_leR, pn_eqL, pn_eqR, pn_subL, pn_z, pn_add, pn_mul, pn_nat, pn_inj, pn_lt, pn_le, pn_neg, kGx_nI, kGx_L, kGd_t, kBd_s, kOpt_s, kOpt_n, kLf_s, kAg_l, kAg_r, kAg_f, if_true, if_false, ite_true, ite_false, eq_self_iff_true, ↓reduceIte, Nat.reduceEqDiff, Nat.reduceLeDiff, Nat.reduceLT, Nat.reduceAdd, Nat.reduceMul, Nat.reduceSub, Int32.reduceLT, Int32.reduceLE, Nat.add_zero, Nat.zero_add, Nat.succ_ne_self, Nat.not_lt_zero, Nat.one_ne_zero, Nat.zero_ne_one, i01, i02, i03, i04, i10, i12, i13, i14, i20, i21, i23, i24, i30, i31, i32, i34, i40, i41, i42, i43, not_true_eq_false, not_false_eq_true, lv_tm]
    rw [kBd_id]; rfl
  · rw [hk]
    simp (disch := omega) only [pn_mulL, pn_addL, pn_addR, pn_ltL, pn_ltR, pn_leL, pn_leR, pn_eqL, pn_eqR, pn_subL, pn_z, pn_add, pn_mul, pn_nat, pn_inj, pn_lt, pn_le, pn_neg, kGx_nI, kGx_L, kGd_t, kBd_s, kOpt_s, kOpt_n, kLf_s, kAg_l, kAg_r, kAg_f, if_true, if_false, ite_true, ite_false, eq_self_iff_true, ↓reduceIte, Nat.reduceEqDiff, Nat.reduceLeDiff, Nat.reduceLT, Nat.reduceAdd, Nat.reduceMul, Nat.reduceSub, Int32.reduceLT, Int32.reduceLE, Nat.add_zero, Nat.zero_add, Nat.succ_ne_self, Nat.not_lt_zero, Nat.one_ne_zero, Nat.zero_ne_one, i01, i02, i03, i04, i10, i12, i13, i14, i20, i21, i23, i24, i30, i31, i32, i34, i40, i41, i42, i43, not_true_eq_false, not_false_eq_true, lv_tm]
    rw [kBd_id]; rfl
set_option maxHeartbeats 4000000 in
theorem ask_pair {T : kT} {S : kS} {n E e t d : Nat} {fI : Int32} (hS : sOk S n) (ht : t < n) (hk : k34 S t) (hh : hg S t ≤ e) (hd : d + hg S t ≤ 9) (ih1 : AskOk T S n fI E e (t + 1) (d + 1)) (ih2 : AskOk T S n fI E e (se S t) (d + 1)) : AskOk T S n fI (E + 1) (e + 1) t d := by
  intro f C R hC hR hL hF
  have k0 : kd S t ≠ 0 := by unfold k34 at hk; rcases hk with h | h <;> rw [h] <;> decide
  have b1 := (nk hS ht).2.2.1 k0
  have p1 := pot_bd hS ht hL hF.2.2
  have hL' := hL
  rw [lv] at hL'
  have p2 := pot_bd (f := f) hS b1.2.1 (hL'.2.2.2.1 hk).1 hF.2.2
  have hm : mM S e t R f ≤ 274805 := by
    unfold mM
    by_cases q : gp R (lMa 39) t = 0
    · rw [if_pos q]; omega
    · rw [if_neg q]; omega
  obtain ⟨a, C', R', f', e', post⟩ := pair_loop (T := T) (fI := fI) hS ht hk hh hd ih1 ih2 274805 0 f C R hm (by omega) hC hR hL hF
  exact ⟨a, C', R', f', by rw [e49_34 (Nat.lt_of_lt_of_le ht hC.1) (by omega) hk (hC.2.2.1 t ht).1]; exact e', post⟩
set_option maxHeartbeats 4000000 in
theorem ask_all {T : kT} {S : kS} {n : Nat} {fI : Int32} (hS : sOk S n) : ∀ e E t d, t < n → hg S t < e → e ≤ E → d + hg S t ≤ 9 → AskOk T S n fI E e t d := by
  intro e
  induction e with
  | zero => intro E t d _ h; omega
  | succ e ih =>
    intro E t d ht he hE hd
    obtain ⟨E, rfl⟩ : ∃ E', E = E' + 1 := ⟨E - 1, by omega⟩
    have hn := nk hS ht
    have a1 := hn.1.1
    have d10 : d < 10 := by omega
    by_cases k0 : kd S t = 0
    · exact ask_leaf hS ht d10 k0
    have b1 := hn.2.2.1 k0
    have i1 : AskOk T S n fI E e (t + 1) (d + 1) := ih E (t + 1) (d + 1) b1.2.1 (by omega) (by omega) (by omega)
    by_cases k1 : kd S t = 1
    · by_cases hx : ix S t = 1
      · exact ask_ix hS ht d10 hx
      · have hx1 := hn.2.2.2.2.2.2.2.2.2.2.2.2.2.2.2
        have hx0 : ix S t = 0 := by
          by_cases z : kd S t = 1 ∧ hw S t = 0 ∧ kd S (t + 1) = 0 ∧ ¬td S t 4 = 0
          · rw [if_pos z] at hx1; exact absurd hx1 hx
          · rw [if_neg z] at hx1; exact hx1
        exact ask_sel hS ht d10 k1 hx0 i1
    by_cases k2 : kd S t = 2
    · exact ask_proj hS ht d10 k2 i1
    by_cases k6 : kd S t = 6
    · exact ask_dist hS ht d10 k6 i1
    by_cases k7 : kd S t = 7
    · exact ask_gth hS ht d10 (Or.inl k7) i1
    by_cases k8 : kd S t = 8
    · exact ask_lim hS ht d10 k8 i1
    by_cases k9 : kd S t = 9
    · exact ask_cnt hS ht d10 k9 i1
    by_cases k10 : kd S t = 10
    · exact ask_gth hS ht d10 (Or.inr k10) i1
    have hbn : bin S t := ⟨by omega, by omega⟩
    have b3 := hn.2.2.2.2.1 hbn
    have i2 : AskOk T S n fI E e (se S t) (d + 1) := ih E (se S t) (d + 1) b3.2.1 (by omega) (by omega) (by omega)
    by_cases k5 : kd S t = 5
    · exact ask_un hS ht d10 k5 i1 i2
    · have hk : k34 S t := by
        unfold k34
        by_cases k3 : kd S t = 3
        · exact Or.inl k3
        · exact Or.inr (by have := hbn.1; have := hbn.2; omega)
      exact ask_pair hS ht hk (by omega) hd i1 i2
