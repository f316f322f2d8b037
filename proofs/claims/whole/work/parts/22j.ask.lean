set_option maxHeartbeats 4000000 in
theorem ask_cnt {T : kT} {S : kS} {n E e t d : Nat} {fI : Int32} (hS : sOk S n) (ht : t < n) (hd : d < 10) (h1 : kd S t = 9) (ih : AskOk T S n fI E e (t + 1) (d + 1)) : AskOk T S n fI (E + 1) (e + 1) t d := by
  intro f C R hC hR hL hF
  have hN := hS.1
  have hn := nk hS ht
  have b1 := hn.2.2.1 (by omega)
  have b2 := hn.2.2.2.1 (by omega) (by simp only [bin]; omega)
  have hs := hn.2.2.2.2.2.2.2.2.2.2.2.2.2.1 h1
  have he := hn.1.2.2.2.1
  have hx1 := hn.2.2.2.2.2.2.2.2.2.2.2.2.2.2.2
  have hx : ix S t = 0 := by rw [hx1, if_neg (by omega)]
  rw [lv] at hL
  have c3 := hC.2.2.1 t ht
  have hT := hC.1
  have j6 := hL.1.2.2.2.2.2.1 (by omega)
  have e49 : F_49r T (E + 1) (some t) (nI d) C = F_62 T (F_49r T E) (some t) (nI d) C := by
    rw [F_49r]
    unfold F_49
    rw [kOpt_s, c3.1, h1, if_pos (by simp (disch := omega) only [pn_mulL, pn_addL, pn_addR, pn_ltL, pn_ltR, pn_leL, pn_leR, pn_eqL, pn_eqR, pn_subL, pn_z, pn_add, pn_mul, pn_nat, pn_inj, pn_lt, pn_le, pn_neg, kGx_nI, kGx_L]; omega)]
    simp (disch := omega) only [pn_mulL, pn_addL, pn_addR, pn_ltL, pn_ltR, pn_leL, pn_leR, pn_eqL, pn_eqR, pn_subL, pn_z, pn_add, pn_mul, pn_nat, pn_inj, pn_lt, pn_le, pn_neg, kGx_nI, kGx_L, kGd_t, kBd_s, kOpt_s, kOpt_n, kLf_s, kAg_l, kAg_r, kAg_f, if_true, if_false, ite_true, ite_false, eq_self_iff_true, ↓reduceIte, Nat.reduceEqDiff, Nat.reduceLeDiff, Nat.reduceLT, Nat.reduceAdd, Nat.reduceMul, Nat.reduceSub, Int32.reduceLT, Int32.reduceLE, Nat.add_zero, Nat.zero_add, Nat.succ_ne_self, Nat.not_lt_zero, Nat.one_ne_zero, Nat.zero_ne_one, i01, i02, i03, i04, i10, i12, i13, i14, i20, i21, i23, i24, i30, i31, i32, i34, i40, i41, i42, i43, not_true_eq_false, not_false_eq_true, lv_tm]
    rw [kBd_id]
  unfold F_62 at e49
  rw [kOpt_s, lv_tm (by omega), kGd_t, j6] at e49
  have pe : ∀ R f, pA S R (e + 1) t + be S (e + 1) t * f = if gp R (lMa 39) t = 0 then 1 else 0 := by
    intro R f
    have q0 : ¬ (kd S t = 0 ∨ ix S t = 1) := by omega
    rw [pA, be, if_neg q0, if_neg q0, if_pos h1, if_pos h1, Nat.zero_mul, Nat.add_zero]
  rcases hL.1.2.2.2.2.2.2.1 with l0 | l0
  · rw [if_pos l0] at e49
    have hp : pas S R t := ⟨by omega, hx, fun z => by omega, fun _ _ _ _ => l0⟩
    have lp0 := lp_pas (T := T) (fI := fI) hS hR ht hp
    obtain ⟨a, C1, R1, f1, e1, fc, sc1, fr, ff, fu1, tk, post⟩ := gather hS ht (by omega) ih f C R hC hR (hL.2.2.1 (by omega) l0) hL.1 l0 hF
    rw [e1, kBd_s] at e49
    have sR1 := sR_fr fr hR
    rcases post with ⟨rfl, l1, nd1, m1⟩ | ⟨rfl, s, l1, su1, lv1, nd1⟩ | ⟨rfl, l1⟩
    · rw [if_pos (show nI 0 = 0 from rfl), kGx_L _ (by omega) (by omega)] at e49
      have re := re_cnt (T := T) (a := t + 1) (M := tl R1 (t + 1) 0) hS (sR_fr (fr_tl (t := 0) (e := 0)) sR1) ht h1
      have lp := lp_tl0 (T := T) (f := fI) (M := R1) hS sR1 (by omega) b1.2.1 (by omega) (by rw [b1.2.2.1]; exact re)
      have j3 := nd1.1.2.2.1 (by omega)
      have ow : own t C1 (sp (sp C1 (lTm t) 15 1) (lRw t) (0 : Int32).toNatClampNeg (gp (sp C1 (lTm t) 15 1) (lTm t) 12)) R1 (sp (sp (tl R1 (t + 1) 0) (lMa 39) t 1) (lMa 28) (t * 12) (gp (tl R1 (t + 1) 0) (lMa 26) t)) := by
        refine ⟨frC_trans (t1 := t) (e1 := t) (t2 := t) (e2 := t) (frC_sp (by omega)) (frC_sp (by omega)) (by omega) (by omega) (by omega) (by omega), ?_, ?_, rfl⟩
        · exact frR_trans (t1 := t) (e1 := t) (t2 := t) (e2 := t) (frR_trans (t := t) (e := t) (t1 := t) (e1 := t) (t2 := t) (e2 := t) fr_tl (frR_mp (by omega) (by omega) (by omega)) (by omega) (by omega) (by omega) (by omega)) (frR_mr (by omega) (fun i hi => upd_ne (by omega))) (by omega) (by omega) (by omega) (by omega)
        · simp (disch := omega) only [gp_ne, gpa_ne, gp_sp, gp_sa, upd_eq, upd_ne, gq_sp, gq_sa]
      refine ⟨1, _, _, f1, e49, frC_trans fc ow.1 (by omega) (by omega) (by omega) (by omega), sC_sp (by omega) (sC_tm (by omega) sc1), frR_trans fr ow.2.1 (by omega) (by omega) (by omega) (by omega), ff, fu_own ow fu1, by rw [ow.2.2.1, tk], Or.inl ⟨rfl, by rw [lp0, l1, lp], ?_, ?_, ?_⟩⟩
      · rw [lv]
        refine ⟨⟨fun z => absurd z (by omega), fun z => absurd z (by omega), fun _ => ?_, fun z => absurd z (by omega), fun z => absurd z (by omega), fun _ => ?_, ?_, fun z => absurd z (by omega), fun z => absurd z (by omega)⟩, fun z => absurd z (by omega), fun _ z => absurd z ?_, fun z => absurd z (by omega), fun z => absurd z (by omega)⟩
        · simp (disch := omega) only [gp_ne, gpa_ne, gp_sp, gp_sa, upd_eq, upd_ne, gq_sp, gq_sa]; rw [j3]; rfl
        · simp (disch := omega) only [gp_ne, gpa_ne, gp_sp, gp_sa, upd_eq, upd_ne, gq_sp, gq_sa]
        · simp (disch := omega) only [gp_ne, gpa_ne, gp_sp, gp_sa, upd_eq, upd_ne, gq_sp, gq_sa]; exact Or.inr rfl
        · simp (disch := omega) only [gp_ne, gpa_ne, gp_sp, gp_sa, upd_eq, upd_ne, gq_sp, gq_sa]; decide
      · intro c hc
        obtain rfl : c = 0 := by omega
        rw [pn_z, Nat.add_zero (t * 12)]
        simp (disch := omega) only [gp_ne, gpa_ne, gp_sp, gp_sa, upd_eq, upd_ne, gq_sp, gq_sa]
        rw [j3]; rfl
      · rw [pe, pe, if_pos l0, if_neg (by simp (disch := omega) only [gp_ne, gpa_ne, gp_sp, gp_sa, upd_eq, upd_ne, gq_sp, gq_sa]; decide)]; omega
    · rw [if_neg (by decide)] at e49
      refine ⟨2, C1, R1, f1, e49, fc, sc1, fr, ff, fu1, tk, Or.inr (Or.inr (Or.inl ⟨rfl, s, by rw [lp0, l1], Or.inr (Or.inl ⟨⟨by omega, hx, fun z => by omega, fun _ _ _ _ => nd1.2⟩, su1⟩), ?_⟩))⟩
      rw [lv]
      exact ⟨nd1.1, fun z => absurd z (by omega), fun _ _ => lv1, fun z => absurd z (by omega), fun z => absurd z (by omega)⟩
    · rw [if_neg (by decide)] at e49
      exact ⟨3, C1, R1, f1, e49, fc, sc1, fr, ff, fu1, tk, Or.inr (Or.inr (Or.inr ⟨rfl, by rw [lp0, l1]⟩))⟩
  · rw [if_neg (by rw [l0]; decide)] at e49
    have lp := lp_ak (f := fI) (ra_cnt (T := T) (M := ak R t) hS (sR_fr (fr_ak (t := 0) (e := 0)) hR) ht h1 l0)
    rw [if_neg (by decide)] at lp
    exact ⟨0, C, ak R t, f, e49, frC_refl _ _ _, hC, fr_ak, by omega, hF, rfl, Or.inr (Or.inl ⟨rfl, lp⟩)⟩
set_option maxHeartbeats 4000000 in
/-- the next kept row in both -/
theorem gth {T : kT} {S : kS} {n e t : Nat} {C R : kM} {aa : Option Nat → Int32 → kM → Option (Int32 × kM)} (hS : sOk S n) (ht : t < n) (hk : kd S t = 7 ∨ kd S t = 10) (hC : sC T S n C) (hJ : nd S t C R) (h1 : gp R (lMa 39) t = 1) :
    ∃ p m, p ≤ m ∧ m ≤ 150 ∧ gp R (lMa 26) t = nI m ∧ gp R (lMa 38) t = nI p ∧
      (p < m → ∃ C2 R2, F_63_25 T aa t C = some (1, C2) ∧ nxM S R t p = tl R2 t 1 ∧ own t C C2 R R2 ∧ sC T S n C2 ∧ lv S C2 R2 (e + 1) t ∧ (∀ c, c < wd S t → gp C2 (lRw t) c = gp R2 (lMa 28) (t * 12 + c)) ∧ pA S R2 (e + 1) t + 1 ≤ m - p) ∧
      (¬ p < m → F_63_25 T aa t C = some (0, C)) := by
  have hN := hS.1
  have hT := hC.1
  have hn := nk hS ht
  have hw0 := hn.1.2.2.1
  have hx1 := hn.2.2.2.2.2.2.2.2.2.2.2.2.2.2.2
  have hx : ix S t = 0 := by rw [hx1, if_neg (by omega)]
  obtain ⟨p, m, y1, y2, y3, y4, y5, y6⟩ := hJ.2.2.2.2.2.2.2.1 hk
  obtain ⟨m', o, k1, k2, k3, k4⟩ := kr_kc (hJ.2.2.2.2.2.2.2.2 (by omega))
  have hmm : m' = m := by
    have := k1.1
    have z := k2.symm.trans y3
    rwa [pn_inj (by omega) (by omega)] at z
  subst hmm
  refine ⟨p, m', y1, y2, y3, y5, fun q => ?_, fun q => ?_⟩
  · have e1 : F_63_25 T aa t C = some (1, sp (sa C (lRw t) (fl (gp C (lRw t)) 0 (wd S t) (fun c => gp C (lKc t) (o p * 12 + c)))) (lTm t) 12 (nI (p + 1))) := by
      unfold F_63_25
      rw [lv_tm (by omega), kGd_t, y4, k1.2.2.1, if_pos (by simp (disch := omega) only [pn_mulL, pn_addL, pn_addR, pn_ltL, pn_ltR, pn_leL, pn_leR, pn_eqL, pn_eqR, pn_subL, pn_z, pn_add, pn_mul, pn_nat, pn_inj, pn_lt, pn_le, pn_neg, kGx_nI, kGx_L]; omega), cl_kcopy hS hC ht k1 q, kBd_s]
      simp (disch := omega) only [gp_ne, gpa_ne, gp_sp, gp_sa, upd_eq, upd_ne, gq_sp, gq_sa, y4, pn_mulL, pn_addL, pn_addR, pn_ltL, pn_ltR, pn_leL, pn_leR, pn_eqL, pn_eqR, pn_subL, pn_z, pn_add, pn_mul, pn_nat, pn_inj, pn_lt, pn_le, pn_neg, kGx_nI, kGx_L]
    refine ⟨_, sp (sa R (lMa 28) (fl (gp R (lMa 28)) (t * 12) (wd S t) (fun c => gp R (lMa 27) (t * 1800 + p * 12 + c)))) (lMa 38) t (nI (p + 1)), e1, rfl, ⟨?_, ?_, ?_, rfl⟩, ?_, ?_, ?_, ?_⟩
    · exact frC_trans (t1 := t) (e1 := t) (t2 := t) (e2 := t) (frC_sa (by omega)) (frC_sp (by omega)) (by omega) (by omega) (by omega) (by omega)
    · exact frR_trans (t1 := t) (e1 := t) (t2 := t) (e2 := t) (frR_mr (by omega) (fun i hi => fl_out (by omega))) (frR_mp (by omega) (by omega) (by omega)) (by omega) (by omega) (by omega) (by omega)
    · simp (disch := omega) only [gp_ne, gpa_ne, gp_sp, gp_sa, upd_eq, upd_ne, gq_sp, gq_sa]
    · exact sC_tm (by omega) (sC_sa (by omega) hC)
    · have j6 := hJ.2.2.2.2.2.1 (by omega)
      have k1' := k1
      rw [lv]
      refine ⟨⟨fun z => absurd z (by omega), fun z => absurd z (by omega), fun z => absurd z (by omega), fun z => absurd z (by omega), fun z => absurd z (by omega), fun _ => ?_, ?_, fun _ => ⟨p + 1, m', by omega, y2, ?_, ?_, ?_, fun z => absurd z ?_⟩, fun _ => kc_kr (m := m') (o := o) ?_ ?_ k3 (fun i hi c hc => ?_)⟩, fun z => absurd z (by omega), fun _ z => absurd z ?_, fun z => absurd z (by omega), fun z => absurd z (by omega)⟩
      · simp (disch := omega) only [gp_ne, gpa_ne, gp_sp, gp_sa, upd_eq, upd_ne, gq_sp, gq_sa]; exact j6
      · simp (disch := omega) only [gp_ne, gpa_ne, gp_sp, gp_sa, upd_eq, upd_ne, gq_sp, gq_sa]; exact hJ.2.2.2.2.2.2.1
      · simp (disch := omega) only [gp_ne, gpa_ne, gp_sp, gp_sa, upd_eq, upd_ne, gq_sp, gq_sa]; exact y3
      · simp (disch := omega) only [gp_ne, gpa_ne, gp_sp, gp_sa, upd_eq, upd_ne, gq_sp, gq_sa]
      · simp (disch := omega) only [gp_ne, gpa_ne, gp_sp, gp_sa, upd_eq, upd_ne, gq_sp, gq_sa]
      · simp (disch := omega) only [gp_ne, gpa_ne, gp_sp, gp_sa, upd_eq, upd_ne, gq_sp, gq_sa]; rw [h1]; decide
      · unfold kc at *
        simp (disch := omega) only [gp_ne, gpa_ne, gp_sp, gp_sa, upd_eq, upd_ne, gq_sp, gq_sa]
        exact k1
      · simp (disch := omega) only [gp_ne, gpa_ne, gp_sp, gp_sa, upd_eq, upd_ne, gq_sp, gq_sa]; exact k2
      · simp (disch := omega) only [gp_ne, gpa_ne, gp_sp, gp_sa, upd_eq, upd_ne, gq_sp, gq_sa]; exact k4 i hi c hc
      · simp (disch := omega) only [gp_ne, gpa_ne, gp_sp, gp_sa, upd_eq, upd_ne, gq_sp, gq_sa]; rw [h1]; decide
    · intro c hc
      simp (disch := omega) only [gp_ne, gpa_ne, gp_sp, gp_sa, upd_eq, upd_ne, gq_sp, gq_sa]
      rw [fl0_in hc, fl_in hc]
      exact k4 p q c hc
    · rw [pA, if_neg (by omega), if_neg (by omega), if_neg (by omega), if_neg (by omega), if_pos hk, if_neg (by simp (disch := omega) only [gp_ne, gpa_ne, gp_sp, gp_sa, upd_eq, upd_ne, gq_sp, gq_sa]; rw [h1]; decide)]
      unfold gn
      simp (disch := omega) only [gp_ne, gpa_ne, gp_sp, gp_sa, upd_eq, upd_ne, gq_sp, gq_sa]
      rw [y3, pn_nat (by omega), pn_nat (by omega)]
      omega
  · unfold F_63_25
    rw [lv_tm (by omega), kGd_t, y4, k1.2.2.1, if_neg (by simp (disch := omega) only [pn_mulL, pn_addL, pn_addR, pn_ltL, pn_ltR, pn_leL, pn_leR, pn_eqL, pn_eqR, pn_subL, pn_z, pn_add, pn_mul, pn_nat, pn_inj, pn_lt, pn_le, pn_neg, kGx_nI, kGx_L]; omega)]
