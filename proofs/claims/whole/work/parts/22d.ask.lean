set_option maxHeartbeats 4000000 in
theorem n11 : nI 1 = 1 := rfl
set_option maxHeartbeats 4000000 in
theorem cl_proj {T : kT} {S : kS} {n t : Nat} {C : kM} {ak : Option Nat → Int32 → kM → Option (Int32 × kM)} {a3 : Int32} (hS : sOk S n) (hC : sC T S n C) (ht : t < n) (h2 : kd S t = 2) : F_55_20 T ak t a3 0 C = some (a3, sa C (lRw t) (fl (gp C (lRw t)) 0 (wd S t) (fun c => gp C (lRw (t + 1)) (pk S t c)))) := by
  have hT := hC.1
  have hn := nk hS ht
  have b1 := hn.2.2.1 (by omega)
  have hp := hn.2.2.2.2.2.2.1 h2
  have hw1 := (nk hS b1.2.1).1.2.2.1
  refine fill (G := fun c M => F_55_20 T ak t a3 (nI c) M) (K := fun M => some (a3, M)) (l := lRw t) (d := 0) (w := wd S t) ?_ ?_
  · intro f c hc hf
    have hC' : sC T S n (sa C (lRw t) f) := sC_sa (by omega) hC
    have c3 := hC'.2.2.1 t ht
    have hpc := hp.2.2 c hc
    have v := cl_val (T := T) (a := t + 1) (c := pk S t c) hS hC' b1.2.1 (by omega)
    show F_55_20 T ak t a3 (nI c) _ = F_55_20 T ak t a3 (nI (c + 1)) _
    rw [F_55_20_eq]
    unfold B_55_20
    rw [c3.2.2.2.2.2.1, c3.2.2.2.2.2.2.1 (by omega), pn_nat (by omega), c3.2.2.2.2.2.2.2.2.2.2.2.2 h2 c hc, v]
    simp (disch := omega) only [pn_mulL, pn_addL, pn_addR, pn_ltL, pn_ltR, pn_leL, pn_leR, pn_eqL, pn_eqR, pn_subL, pn_z, pn_add, pn_mul, pn_nat, pn_inj, pn_lt, pn_le, pn_neg, kGx_nI, kGx_L, kGd_t, kBd_s, kOpt_s, kOpt_n, kLf_s, kAg_l, kAg_r, kAg_f, if_true, if_false, ite_true, ite_false, eq_self_iff_true, ↓reduceIte, Nat.reduceEqDiff, Nat.reduceLeDiff, Nat.reduceLT, Nat.reduceAdd, Nat.reduceMul, Nat.reduceSub, Int32.reduceLT, Int32.reduceLE, Nat.add_zero, Nat.zero_add, Nat.succ_ne_self, Nat.not_lt_zero, Nat.one_ne_zero, Nat.zero_ne_one, i01, i02, i03, i04, i10, i12, i13, i14, i20, i21, i23, i24, i30, i31, i32, i34, i40, i41, i42, i43, not_true_eq_false, not_false_eq_true, lv_tm, gp_ne, gpa_ne, gp_sp, gp_sa, upd_eq, upd_ne, gq_sp, gq_sa]
    rw [if_neg (by omega), if_neg (by omega), kAg_l]
    unfold sp
    rw [sa_sa, gp_sa]
  · intro f
    have hC' : sC T S n (sa C (lRw t) f) := sC_sa (by omega) hC
    have c3 := hC'.2.2.1 t ht
    show F_55_20 T ak t a3 (nI (wd S t)) _ = _
    rw [F_55_20_eq]
    unfold B_55_20
    rw [c3.2.2.2.2.2.1]
    simp (disch := omega) only [pn_mulL, pn_addL, pn_addR, pn_ltL, pn_ltR, pn_leL, pn_leR, pn_eqL, pn_eqR, pn_subL, pn_z, pn_add, pn_mul, pn_nat, pn_inj, pn_lt, pn_le, pn_neg, kGx_nI, kGx_L, kGd_t, kBd_s, kOpt_s, kOpt_n, kLf_s, kAg_l, kAg_r, kAg_f, if_true, if_false, ite_true, ite_false, eq_self_iff_true, ↓reduceIte, Nat.reduceEqDiff, Nat.reduceLeDiff, Nat.reduceLT, Nat.reduceAdd, Nat.reduceMul, Nat.reduceSub, Int32.reduceLT, Int32.reduceLE, Nat.add_zero, Nat.zero_add, Nat.succ_ne_self, Nat.not_lt_zero, Nat.one_ne_zero, Nat.zero_ne_one, i01, i02, i03, i04, i10, i12, i13, i14, i20, i21, i23, i24, i30, i31, i32, i34, i40, i41, i42, i43, not_true_eq_false, not_false_eq_true, lv_tm]
    rw [if_pos (by omega), kAg_r]
set_option maxHeartbeats 4000000 in
theorem fl0_in {g : Nat → Int32} {w c : Nat} {src : Nat → Int32} (h : c < w) : fl g 0 w src c = src c := by
  have := fl_in (g := g) (d := 0) (w := w) (j := c) (src := src) h
  rwa [Nat.zero_add] at this
set_option maxHeartbeats 4000000 in
theorem fu_own {t f : Nat} {C C' R R' : kM} (h : own t C C' R R') (g : fu C R f) : fu C' R' f := ⟨by rw [h.2.2.1]; exact g.1, by rw [h.2.2.2]; exact g.2.1, g.2.2⟩
set_option maxHeartbeats 4000000 in
theorem ask_proj {T : kT} {S : kS} {n E e t d : Nat} {fI : Int32} (hS : sOk S n) (ht : t < n) (hd : d < 10) (h1 : kd S t = 2) (ih : AskOk T S n fI E e (t + 1) (d + 1)) : AskOk T S n fI (E + 1) (e + 1) t d := by
  intro f C R hC hR hL hF
  have hn := nk hS ht
  have b1 := hn.2.2.1 (by omega)
  have b2 := hn.2.2.2.1 (by omega) (by simp only [bin]; omega)
  have hs := hn.2.2.2.2.2.2.1 h1
  have he := hn.1.2.2.2.1
  have hx1 := hn.2.2.2.2.2.2.2.2.2.2.2.2.2.2.2
  have hx : ix S t = 0 := by rw [hx1, if_neg (by omega)]
  rw [lv] at hL
  have c3 := hC.2.2.1 t ht
  have hT := hC.1
  obtain ⟨a, C1, R1, f1, e1, fc, sc1, fr, ff, fu1, tk, post⟩ := ih f C R hC hR (hL.2.1 (by omega)) hF
  have e49 : F_49r T (E + 1) (some t) (nI d) C = F_55 T (F_49r T E) (some t) (nI d) C := by
    rw [F_49r]
    unfold F_49
    rw [kOpt_s, c3.1, h1, if_pos (by simp (disch := omega) only [pn_mulL, pn_addL, pn_addR, pn_ltL, pn_ltR, pn_leL, pn_leR, pn_eqL, pn_eqR, pn_subL, pn_z, pn_add, pn_mul, pn_nat, pn_inj, pn_lt, pn_le, pn_neg, kGx_nI, kGx_L]; omega)]
    simp (disch := omega) only [pn_mulL, pn_addL, pn_addR, pn_ltL, pn_ltR, pn_leL, pn_leR, pn_eqL, pn_eqR, pn_subL, pn_z, pn_add, pn_mul, pn_nat, pn_inj, pn_lt, pn_le, pn_neg, kGx_nI, kGx_L, kGd_t, kBd_s, kOpt_s, kOpt_n, kLf_s, kAg_l, kAg_r, kAg_f, if_true, if_false, ite_true, ite_false, eq_self_iff_true, ↓reduceIte, Nat.reduceEqDiff, Nat.reduceLeDiff, Nat.reduceLT, Nat.reduceAdd, Nat.reduceMul, Nat.reduceSub, Int32.reduceLT, Int32.reduceLE, Nat.add_zero, Nat.zero_add, Nat.succ_ne_self, Nat.not_lt_zero, Nat.one_ne_zero, Nat.zero_ne_one, i01, i02, i03, i04, i10, i12, i13, i14, i20, i21, i23, i24, i30, i31, i32, i34, i40, i41, i42, i43, not_true_eq_false, not_false_eq_true, lv_tm]
    rw [kBd_id]
  unfold F_55 at e49
  rw [kOpt_s, lv_tm (by omega), kGd_t, c3.2.2.2.2.2.2.1 (by omega), pn_addL, e1, kBd_s] at e49
  have sR1 := sR_fr fr hR
  have J1 := nd_child hS ht (by omega) C R C1 R1 fc fr hL.1
  have fc' : frC t (en S t) C C1 := frC_trans fc (frC_refl t t C1) (by omega) (by omega) (by omega) (by omega)
  have fr' : frR t (en S t) R R1 := frR_trans fr (frR_refl t t R1) (by omega) (by omega) (by omega) (by omega)
  have hp : pas S R t := ⟨by omega, hx, fun z => by omega, fun _ z => absurd h1 z⟩
  have lp0 := lp_pas (T := T) (fI := fI) hS hR ht hp
  have pe : ∀ R f, pA S R (e + 1) t + be S (e + 1) t * f = pA S R e (t + 1) + be S e (t + 1) * f := by
    intro R f
    rw [pA, be, if_neg (by omega), if_neg (by omega), if_neg (by omega), if_neg (by omega), if_neg (by omega), if_neg (by omega), if_neg (by omega), if_neg (by omega), if_neg (by omega)]
  have lvT : ∀ {C R : kM}, nd S t C R → lv S C R e (t + 1) → lv S C R (e + 1) t := by
    intro C R g1 g2
    rw [lv]
    exact ⟨g1, fun _ => g2, fun z => absurd z (by omega), fun z => absurd z (by omega), fun z => absurd z (by omega)⟩
  rcases post with ⟨rfl, l1, lv1, rw1, pot1⟩ | ⟨rfl, l1⟩ | ⟨rfl, s, l1, su1, lv1⟩ | ⟨rfl, l1⟩
  · rw [if_pos n11, cl_proj hS sc1 ht h1] at e49
    have rc := rc_proj (T := T) (M := tl R1 (t + 1) 1) hS (sR_fr (fr_tl (t := 0) (e := 0)) sR1) ht h1
    have lp := lp_tl1 (T := T) (f := fI) (M := R1) hS sR1 (by omega) b1.2.1 (by omega) (by rw [b1.2.2.1]; exact rc)
    rw [if_neg (by decide)] at lp
    have ow : own t C1 (sa C1 (lRw t) (fl (gp C1 (lRw t)) 0 (wd S t) (fun c => gp C1 (lRw (t + 1)) (pk S t c)))) R1 (sa (tl R1 (t + 1) 1) (lMa 28) (fl (gp (tl R1 (t + 1) 1) (lMa 28)) (t * 12) (wd S t) (fun c => gp (tl R1 (t + 1) 1) (lMa 28) ((t + 1) * 12 + pk S t c)))) := own_row (fun i hi => fl_out (by omega))
    refine ⟨1, _, _, f1, e49, frC_trans fc' ow.1 (by omega) (by omega) (by omega) (by omega), sC_sa (by omega) sc1, frR_trans fr' ow.2.1 (by omega) (by omega) (by omega) (by omega), ff, fu_own ow fu1, by rw [ow.2.2.1, tk], Or.inl ⟨rfl, by rw [lp0, l1, lp]; rfl, lvT (nd_row J1) (lv_fr hS b1.2.1 ow.1 ow.2.1 (by omega) (by omega) lv1), ?_, ?_⟩⟩
    · intro c hc
      simp (disch := omega) only [gp_ne, gpa_ne, gp_sp, gp_sa, upd_eq, upd_ne, gq_sp, gq_sa]
      rw [fl0_in hc, fl_in hc]
      exact rw1 _ (hs.2.2 c hc).2
    · rw [pe, pe, pA_fr hS b1.2.1 ow.2.1 (by omega)]; exact pot1
  · rw [if_neg (by decide)] at e49
    have re := re_pass (T := T) (a := t + 1) (M := tl R1 (t + 1) 0) hS (sR_fr (fr_tl (t := 0) (e := 0)) sR1) ht (by omega) b1.2.1 (by omega)
    have lp := lp_tl0 (T := T) (f := fI) (M := R1) hS sR1 (by omega) b1.2.1 (by omega) (by rw [b1.2.2.1]; exact re)
    exact ⟨0, C1, R1, f1, e49, fc', sc1, fr', ff, fu1, tk, Or.inr (Or.inl ⟨rfl, by rw [lp0, l1, lp, tl_tl]⟩)⟩
  · rw [if_neg (by decide)] at e49
    exact ⟨2, C1, R1, f1, e49, fc', sc1, fr', ff, fu1, tk, Or.inr (Or.inr (Or.inl ⟨rfl, s, by rw [lp0, l1], Or.inr (Or.inl ⟨⟨by omega, hx, fun z => by omega, fun _ z => absurd h1 z⟩, su1⟩), lvT J1 lv1⟩))⟩
  · rw [if_neg (by decide)] at e49
    exact ⟨3, C1, R1, f1, e49, fc', sc1, fr', ff, fu1, tk, Or.inr (Or.inr (Or.inr ⟨rfl, by rw [lp0, l1]⟩))⟩
set_option maxHeartbeats 4000000 in
theorem cl_thr {T : kT} {S : kS} {n t a d : Nat} {C C1 : kM} {r : Int32} {ak : Option Nat → Int32 → kM → Option (Int32 × kM)} (hS : sOk S n) (hC : sC T S n C1) (ht : t < n) (ha : a < n) (e : ak (some a) (nI (d + 1)) C = some (r, C1)) : F_58 T ak (some t) (some a) (nI d) C = some (r, if r = 1 then sa C1 (lRw t) (fl (gp C1 (lRw t)) 0 (wd S a) (fun c => gp C1 (lRw a) c)) else C1) := by
  have hw := (nk hS ha).1.2.2.1
  unfold F_58
  rw [pn_addL, e, kBd_s]
  by_cases q : r = 1
  · rw [if_pos q, if_pos q, cl_copy0 hS hC ha ht hw, kBd_s]
  · rw [if_neg q, if_neg q]
set_option maxHeartbeats 4000000 in
theorem ask_lim {T : kT} {S : kS} {n E e t d : Nat} {fI : Int32} (hS : sOk S n) (ht : t < n) (hd : d < 10) (h1 : kd S t = 8) (ih : AskOk T S n fI E e (t + 1) (d + 1)) : AskOk T S n fI (E + 1) (e + 1) t d := by
  intro f C R hC hR hL hF
  have hn := nk hS ht
  have b1 := hn.2.2.1 (by omega)
  have b2 := hn.2.2.2.1 (by omega) (by simp only [bin]; omega)
  have hs := hn.2.2.2.2.2.2.2.2.2.2.2.2.1 h1
  have he := hn.1.2.2.2.1
  have hw0 := hn.1.2.2.1
  have hx1 := hn.2.2.2.2.2.2.2.2.2.2.2.2.2.2.2
  have hx : ix S t = 0 := by rw [hx1, if_neg (by omega)]
  rw [lv] at hL
  have c3 := hC.2.2.1 t ht
  have hT := hC.1
  have hpk := hL.1.2.2.1 (by omega)
  have e49 : F_49r T (E + 1) (some t) (nI d) C = F_61 T (F_49r T E) (some t) (nI d) C := by
    rw [F_49r]
    unfold F_49
    rw [kOpt_s, c3.1, h1, if_pos (by simp (disch := omega) only [pn_mulL, pn_addL, pn_addR, pn_ltL, pn_ltR, pn_leL, pn_leR, pn_eqL, pn_eqR, pn_subL, pn_z, pn_add, pn_mul, pn_nat, pn_inj, pn_lt, pn_le, pn_neg, kGx_nI, kGx_L]; omega)]
    simp (disch := omega) only [pn_mulL, pn_addL, pn_addR, pn_ltL, pn_ltR, pn_leL, pn_leR, pn_eqL, pn_eqR, pn_subL, pn_z, pn_add, pn_mul, pn_nat, pn_inj, pn_lt, pn_le, pn_neg, kGx_nI, kGx_L, kGd_t, kBd_s, kOpt_s, kOpt_n, kLf_s, kAg_l, kAg_r, kAg_f, if_true, if_false, ite_true, ite_false, eq_self_iff_true, ↓reduceIte, Nat.reduceEqDiff, Nat.reduceLeDiff, Nat.reduceLT, Nat.reduceAdd, Nat.reduceMul, Nat.reduceSub, Int32.reduceLT, Int32.reduceLE, Nat.add_zero, Nat.zero_add, Nat.succ_ne_self, Nat.not_lt_zero, Nat.one_ne_zero, Nat.zero_ne_one, i01, i02, i03, i04, i10, i12, i13, i14, i20, i21, i23, i24, i30, i31, i32, i34, i40, i41, i42, i43, not_true_eq_false, not_false_eq_true, lv_tm]
    rw [kBd_id]
  unfold F_61 at e49
  rw [kOpt_s, lv_tm (by omega), kGd_t, c3.2.2.2.2.1, hpk, c3.2.2.2.2.2.2.1 (by omega)] at e49
  by_cases q : gp R (lMa 26) t < vl S t
  · rw [if_pos q] at e49
    obtain ⟨a, C1, R1, f1, e1, fc, sc1, fr, ff, fu1, tk, post⟩ := ih f C R hC hR (hL.2.1 (by omega)) hF
    rw [cl_thr hS sc1 ht b1.2.1 e1, kBd_s] at e49
    have sR1 := sR_fr fr hR
    have J1 := nd_child hS ht (by omega) C R C1 R1 fc fr hL.1
    have fc' : frC t (en S t) C C1 := frC_trans fc (frC_refl t t C1) (by omega) (by omega) (by omega) (by omega)
    have fr' : frR t (en S t) R R1 := frR_trans fr (frR_refl t t R1) (by omega) (by omega) (by omega) (by omega)
    have hp : pas S R t := ⟨by omega, hx, fun z => q, fun _ _ _ z => absurd h1 z⟩
    have r26 : gp R1 (lMa 26) t = gp R (lMa 26) t := (fr.2.2.2 t (by omega)).1
    have lp0 := lp_pas (T := T) (fI := fI) hS hR ht hp
    have pe : ∀ R f, pA S R (e + 1) t + be S (e + 1) t * f = pA S R e (t + 1) + be S e (t + 1) * f := by
      intro R f
      rw [pA, be, if_neg (by omega), if_neg (by omega), if_neg (by omega), if_neg (by omega), if_neg (by omega), if_neg (by omega), if_neg (by omega), if_neg (by omega), if_neg (by omega)]
    have lvT : ∀ {C R : kM}, nd S t C R → lv S C R e (t + 1) → lv S C R (e + 1) t := by
      intro C R g1 g2
      rw [lv]
      exact ⟨g1, fun _ => g2, fun z => absurd z (by omega), fun z => absurd z (by omega), fun z => absurd z (by omega)⟩
    rcases post with ⟨rfl, l1, lv1, rw1, pot1⟩ | ⟨rfl, l1⟩ | ⟨rfl, s, l1, su1, lv1⟩ | ⟨rfl, l1⟩
    · simp only [if_pos n11] at e49
      have rc := rc_lim (T := T) (M := tl R1 (t + 1) 1) hS (sR_fr (fr_tl (t := 0) (e := 0)) sR1) ht h1
      have lp := lp_tl1 (T := T) (f := fI) (M := R1) hS sR1 (by omega) b1.2.1 (by omega) (by rw [b1.2.2.1]; exact rc)
      rw [if_neg (by decide)] at lp
      generalize hC2 : sa C1 (lRw t) (fl (gp C1 (lRw t)) 0 (wd S (t + 1)) (fun c => gp C1 (lRw (t + 1)) c)) = C2 at e49
      generalize hR2 : sp (tl R1 (t + 1) 1) (lMa 26) t (gp (tl R1 (t + 1) 1) (lMa 26) t + 1) = R2 at lp
      have ow : own t C1 (sp C2 (lTm t) 12 (gp C2 (lTm t) 12 + 1)) R1 (sa R2 (lMa 28) (fl (gp R2 (lMa 28)) (t * 12) (wd S t) (fun c => gp R2 (lMa 28) ((t + 1) * 12 + c)))) := by
        subst hC2 hR2
        refine ⟨frC_trans (t1 := t) (e1 := t) (t2 := t) (e2 := t) (frC_sa (by omega)) (frC_sp (by omega)) (by omega) (by omega) (by omega) (by omega), ?_, rfl, rfl⟩
        refine frR_trans (t1 := t) (e1 := t) (t2 := t) (e2 := t) (frR_trans (t := t) (e := t) (t1 := t) (e1 := t) (t2 := t) (e2 := t) fr_tl (frR_mp (by omega) (by omega) (by omega)) (by omega) (by omega) (by omega) (by omega)) (frR_mr (by omega) (fun i hi => fl_out (by omega))) (by omega) (by omega) (by omega) (by omega)
      refine ⟨1, _, _, f1, e49, frC_trans fc' ow.1 (by omega) (by omega) (by omega) (by omega), ?_, frR_trans fr' ow.2.1 (by omega) (by omega) (by omega) (by omega), ff, fu_own ow fu1, by rw [ow.2.2.1, tk], Or.inl ⟨rfl, by rw [lp0, l1, lp]; rfl, lvT ?_ (lv_fr hS b1.2.1 ow.1 ow.2.1 (by omega) (by omega) lv1), ?_, ?_⟩⟩
      · subst hC2; exact sC_tm (by omega) (sC_sa (by omega) sc1)
      · have jj := J1.2.2.1 (by omega)
        have jb := J1.2.2.2.2.2.2.1
        subst hC2 hR2
        refine ⟨fun z => absurd z (by omega), fun z => absurd z (by omega), fun _ => ?_, fun z => absurd z (by omega), fun z => absurd z (by omega), fun z => absurd z (by omega), ?_, fun z => absurd z (by omega), fun z => absurd z (by omega)⟩
        · simp (disch := omega) only [gp_ne, gpa_ne, gp_sp, gp_sa, upd_eq, upd_ne, gq_sp, gq_sa]
          rw [jj]; rfl
        · simp (disch := omega) only [gp_ne, gpa_ne, gp_sp, gp_sa, upd_eq, upd_ne, gq_sp, gq_sa]
          exact jb
      · intro c hc
        subst hC2 hR2
        simp (disch := omega) only [gp_ne, gpa_ne, gp_sp, gp_sa, upd_eq, upd_ne, gq_sp, gq_sa]
        rw [fl0_in (by omega), fl_in hc]
        exact rw1 _ (by omega)
      · rw [pe, pe, pA_fr hS b1.2.1 ow.2.1 (by omega)]; exact pot1
    · rw [if_neg (by decide), if_neg (by decide)] at e49
      have re := re_pass (T := T) (a := t + 1) (M := tl R1 (t + 1) 0) hS (sR_fr (fr_tl (t := 0) (e := 0)) sR1) ht (by omega) b1.2.1 (by omega)
      have lp := lp_tl0 (T := T) (f := fI) (M := R1) hS sR1 (by omega) b1.2.1 (by omega) (by rw [b1.2.2.1]; exact re)
      exact ⟨0, C1, R1, f1, e49, fc', sc1, fr', ff, fu1, tk, Or.inr (Or.inl ⟨rfl, by rw [lp0, l1, lp, tl_tl]⟩)⟩
    · rw [if_neg (by decide), if_neg (by decide)] at e49
      exact ⟨2, C1, R1, f1, e49, fc', sc1, fr', ff, fu1, tk, Or.inr (Or.inr (Or.inl ⟨rfl, s, by rw [lp0, l1], Or.inr (Or.inl ⟨⟨by omega, hx, fun z => by rw [r26]; exact q, fun _ _ _ z => absurd h1 z⟩, su1⟩), lvT J1 lv1⟩))⟩
    · rw [if_neg (by decide), if_neg (by decide)] at e49
      exact ⟨3, C1, R1, f1, e49, fc', sc1, fr', ff, fu1, tk, Or.inr (Or.inr (Or.inr ⟨rfl, by rw [lp0, l1]⟩))⟩
  · rw [if_neg q] at e49
    have lp := lp_ak (f := fI) (ra_lim (T := T) (M := ak R t) hS (sR_fr (fr_ak (t := 0) (e := 0)) hR) ht h1 q)
    rw [if_neg (by decide)] at lp
    exact ⟨0, C, ak R t, f, e49, frC_refl _ _ _, hC, fr_ak, by omega, hF, rfl, Or.inr (Or.inl ⟨rfl, lp⟩)⟩
