set_option maxHeartbeats 4000000 in
theorem pot_up {p p' b B f f' k : Nat} (h : p' + b * f' + k ≤ p + b * f) (hf : f' ≤ f) (hb : b ≤ B) : p' + B * f' + k ≤ p + B * f := by
  obtain ⟨x, rfl⟩ : ∃ x, B = b + x := ⟨B - b, by omega⟩
  have := Nat.mul_le_mul_left x hf
  rw [Nat.add_mul, Nat.add_mul]
  omega
set_option maxHeartbeats 4000000 in
theorem ask_un2 {T : kT} {S : kS} {n E e t d : Nat} {fI : Int32} (hS : sOk S n) (ht : t < n) (h5 : kd S t = 5) (ih : AskOk T S n fI E e (se S t) (d + 1)) : ∀ f C R, sC T S n C → sR S n R → lv S C R e (se S t) → nd S t C R → gp R (lMa 39) t = 1 → fu C R f → ∃ a C' R' f', F_59_29 T (F_49r T E) t (nI d) C = some (nI a, C') ∧
    frC t (en S t) C C' ∧ sC T S n C' ∧ frR t (en S t) R R' ∧ f' ≤ f ∧ fu C' R' f' ∧ gp C' lRu 1 + nI f' = gp C lRu 1 + nI f ∧
    ((a = 1 ∧ Lp T fI (ak R (se S t)) = Lp T fI (tl R' t 1) ∧ lv S C' R' (e + 1) t ∧ (∀ c, c < wd S t → gp C' (lRw t) c = gp R' (lMa 28) (t * 12 + c)) ∧ pA S R' (e + 1) t + be S (e + 1) t * f' + 1 ≤ pA S R e (se S t) + be S (e + 1) t * f) ∨
     (a = 0 ∧ Lp T fI (ak R (se S t)) = Lp T fI (tl R' t 0)) ∨
     (a = 2 ∧ ∃ s, Lp T fI (ak R (se S t)) = Lq T fI 2 (ak R' s) ∧ susp S R' (e + 1) t s ∧ lv S C' R' (e + 1) t) ∨
     (a = 3 ∧ Lp T fI (ak R (se S t)) = Lq T fI 3 R')) := by
  intro f C R hC hR hL hND h39 hF
  have hn := nk hS ht
  have b1 := hn.2.2.1 (by omega)
  have hbn : bin S t := ⟨by omega, by omega⟩
  have b3 := hn.2.2.2.2.1 hbn
  have hws := hn.2.2.2.2.2.2.2.2.2.1 h5
  have he := hn.1.2.2.2.1
  have hw0 := hn.1.2.2.1
  have hx1 := hn.2.2.2.2.2.2.2.2.2.2.2.2.2.2.2
  have hx : ix S t = 0 := by rw [hx1, if_neg (by omega)]
  have c3 := hC.2.2.1 t ht
  have hT := hC.1
  obtain ⟨a, C1, R1, f1, e1, fc, sc1, fr, ff, fu1, tk, post⟩ := ih f C R hC hR hL hF
  have sR1 := sR_fr fr hR
  have J1 := nd_child hS ht (by omega) C R C1 R1 fc fr hND
  have r39 : gp R1 (lMa 39) t = 1 := by rw [(fr.2.2.2 t (by omega)).2.2.1]; exact h39
  have fc' : frC t (en S t) C C1 := frC_trans fc (frC_refl t t C1) (by omega) (by omega) (by omega) (by omega)
  have fr' : frR t (en S t) R R1 := frR_trans fr (frR_refl t t R1) (by omega) (by omega) (by omega) (by omega)
  have e29 : F_59_29 T (F_49r T E) t (nI d) C = some (nI a, if nI a = 1 then sa C1 (lRw t) (fl (gp C1 (lRw t)) 0 (wd S (se S t)) (fun c => gp C1 (lRw (se S t)) c)) else C1) := by
    unfold F_59_29
    rw [lv_tm (by omega), kGd_t, c3.2.2.2.2.2.2.2.1 hbn, cl_thr hS sc1 ht b3.2.1 e1, kBd_s]
  have lvT : ∀ {C R : kM}, nd S t C R → gp R (lMa 39) t = 1 → lv S C R e (se S t) → lv S C R (e + 1) t := by
    intro C R g1 g3 g2
    rw [lv]
    exact ⟨g1, fun z => absurd z (by omega), fun z => absurd z (by omega), fun z => absurd z (by omega), fun _ => ⟨g2, fun z => absurd (g3.symm.trans z) (by decide)⟩⟩
  rcases post with ⟨rfl, l1, lv1, rw1, pot1⟩ | ⟨rfl, l1⟩ | ⟨rfl, s, l1, su1, lv1⟩ | ⟨rfl, l1⟩
  · rw [if_pos n11] at e29
    have rc := rc_union (T := T) (a := se S t) (M := tl R1 (se S t) 1) hS (sR_fr (fr_tl (t := 0) (e := 0)) sR1) ht h5 b3.2.1 (by omega)
    have lp := lp_tl1 (T := T) (f := fI) (M := R1) hS sR1 (by omega) b3.2.1 (by omega) (by rw [b3.2.2.2.1]; exact rc)
    rw [if_neg (by decide)] at lp
    have ow : own t C1 (sa C1 (lRw t) (fl (gp C1 (lRw t)) 0 (wd S (se S t)) (fun c => gp C1 (lRw (se S t)) c))) R1 (sa (tl R1 (se S t) 1) (lMa 28) (fl (gp (tl R1 (se S t) 1) (lMa 28)) (t * 12) (wd S t) (fun c => gp (tl R1 (se S t) 1) (lMa 28) (se S t * 12 + c)))) := own_row (fun i hi => fl_out (by omega))
    refine ⟨1, _, _, f1, e29, frC_trans fc' ow.1 (by omega) (by omega) (by omega) (by omega), sC_sa (by omega) sc1, frR_trans fr' ow.2.1 (by omega) (by omega) (by omega) (by omega), ff, fu_own ow fu1, by rw [ow.2.2.1, tk], Or.inl ⟨rfl, by rw [l1, lp]; rfl, lvT (nd_row J1) r39 (lv_fr hS b3.2.1 ow.1 ow.2.1 (by omega) (by omega) lv1), ?_, ?_⟩⟩
    · intro c hc
      simp (disch := omega) only [gp_ne, gpa_ne, gp_sp, gp_sa, upd_eq, upd_ne, gq_sp, gq_sa]
      rw [fl0_in (by omega), fl_in hc]
      exact rw1 _ (by omega)
    · have pe : pA S (sa (tl R1 (se S t) 1) (lMa 28) (fl (gp (tl R1 (se S t) 1) (lMa 28)) (t * 12) (wd S t) (fun c => gp (tl R1 (se S t) 1) (lMa 28) (se S t * 12 + c)))) (e + 1) t = pA S R1 e (se S t) := by
        rw [pA, if_neg (by omega), if_neg (by omega), if_neg (by omega), if_pos h5, if_neg (by intro z; exact absurd (r39.symm.trans z) (by decide)), pA_fr hS b3.2.1 ow.2.1 (by omega), Nat.zero_add]
      rw [pe]
      refine pot_up pot1 ff ?_
      rw [be, if_neg (by omega), if_neg (by omega), if_neg (by omega), if_pos h5]; omega
  · rw [if_neg (by decide)] at e29
    have re := re_pass (T := T) (a := se S t) (M := tl R1 (se S t) 0) hS (sR_fr (fr_tl (t := 0) (e := 0)) sR1) ht (by omega) b3.2.1 (by omega)
    have lp := lp_tl0 (T := T) (f := fI) (M := R1) hS sR1 (by omega) b3.2.1 (by omega) (by rw [b3.2.2.2.1]; exact re)
    exact ⟨0, C1, R1, f1, e29, fc', sc1, fr', ff, fu1, tk, Or.inr (Or.inl ⟨rfl, by rw [l1, lp, tl_tl]⟩)⟩
  · rw [if_neg (by decide)] at e29
    exact ⟨2, C1, R1, f1, e29, fc', sc1, fr', ff, fu1, tk, Or.inr (Or.inr (Or.inl ⟨rfl, s, l1, Or.inr (Or.inr ⟨hbn, r39, su1⟩), lvT J1 r39 lv1⟩))⟩
  · rw [if_neg (by decide)] at e29
    exact ⟨3, C1, R1, f1, e29, fc', sc1, fr', ff, fu1, tk, Or.inr (Or.inr (Or.inr ⟨rfl, l1⟩))⟩
set_option maxHeartbeats 4000000 in
theorem ask_un {T : kT} {S : kS} {n E e t d : Nat} {fI : Int32} (hS : sOk S n) (ht : t < n) (hd : d < 10) (h5 : kd S t = 5) (ih1 : AskOk T S n fI E e (t + 1) (d + 1)) (ih2 : AskOk T S n fI E e (se S t) (d + 1)) : AskOk T S n fI (E + 1) (e + 1) t d := by
  intro f C R hC hR hL hF
  have hn := nk hS ht
  have b1 := hn.2.2.1 (by omega)
  have hbn : bin S t := ⟨by omega, by omega⟩
  have b3 := hn.2.2.2.2.1 hbn
  have hws := hn.2.2.2.2.2.2.2.2.2.1 h5
  have he := hn.1.2.2.2.1
  have hw0 := hn.1.2.2.1
  have hx1 := hn.2.2.2.2.2.2.2.2.2.2.2.2.2.2.2
  have hx : ix S t = 0 := by rw [hx1, if_neg (by omega)]
  have c3 := hC.2.2.1 t ht
  have hT := hC.1
  rw [lv] at hL
  have hfl := hL.1.2.2.2.2.1 h5
  have e49 : F_49r T (E + 1) (some t) (nI d) C = F_59 T (F_49r T E) (some t) (nI d) C := by
    rw [F_49r]
    unfold F_49
    rw [kOpt_s, c3.1, h5, if_pos (by simp (disch := omega) only [pn_mulL, pn_addL, pn_addR, pn_ltL, pn_ltR, pn_leL, pn_leR, pn_eqL, pn_eqR, pn_subL, pn_z, pn_add, pn_mul, pn_nat, pn_inj, pn_lt, pn_le, pn_neg, kGx_nI, kGx_L]; omega)]
    simp (disch := omega) only [pn_mulL, pn_addL, pn_addR, pn_ltL, pn_ltR, pn_leL, pn_leR, pn_eqL, pn_eqR, pn_subL, pn_z, pn_add, pn_mul, pn_nat, pn_inj, pn_lt, pn_le, pn_neg, kGx_nI, kGx_L, kGd_t, kBd_s, kOpt_s, kOpt_n, kLf_s, kAg_l, kAg_r, kAg_f, if_true, if_false, ite_true, ite_false, eq_self_iff_true, ↓reduceIte, Nat.reduceEqDiff, Nat.reduceLeDiff, Nat.reduceLT, Nat.reduceAdd, Nat.reduceMul, Nat.reduceSub, Int32.reduceLT, Int32.reduceLE, Nat.add_zero, Nat.zero_add, Nat.succ_ne_self, Nat.not_lt_zero, Nat.one_ne_zero, Nat.zero_ne_one, i01, i02, i03, i04, i10, i12, i13, i14, i20, i21, i23, i24, i30, i31, i32, i34, i40, i41, i42, i43, not_true_eq_false, not_false_eq_true, lv_tm]
    rw [kBd_id]
  unfold F_59 at e49
  rw [kOpt_s, lv_tm (by omega), kGd_t, hfl, c3.2.2.2.2.2.2.1 (by omega)] at e49
  have pe : ∀ R, pA S R (e + 1) t = (if gp R (lMa 39) t = 0 then pA S R e (t + 1) else 0) + pA S R e (se S t) := by
    intro R
    rw [pA, if_neg (by omega), if_neg (by omega), if_neg (by omega), if_pos h5]
  rcases hL.1.2.2.2.2.2.2.1 with l0 | l0
  · rw [if_pos l0] at e49
    have hp : pas S R t := ⟨by omega, hx, fun z => by omega, fun _ _ _ _ => l0⟩
    have lp0 := lp_pas (T := T) (fI := fI) hS hR ht hp
    obtain ⟨a, C1, R1, f1, e1, fc, sc1, fr, ff, fu1, tk, post⟩ := ih1 f C R hC hR ((hL.2.2.2.2 h5).2 l0) hF
    rw [cl_thr hS sc1 ht b1.2.1 e1, kBd_s] at e49
    have sR1 := sR_fr fr hR
    have J1 := nd_child hS ht (by omega) C R C1 R1 fc fr hL.1
    have r39 : gp R1 (lMa 39) t = 0 := by rw [(fr.2.2.2 t (by omega)).2.2.1]; exact l0
    have fc' : frC t (en S t) C C1 := frC_trans fc (frC_refl t t C1) (by omega) (by omega) (by omega) (by omega)
    have fr' : frR t (en S t) R R1 := frR_trans fr (frR_refl t t R1) (by omega) (by omega) (by omega) (by omega)
    have lvs : lv S C1 R1 e (se S t) := lv_fr hS b3.2.1 fc fr (by omega) (by omega) (hL.2.2.2.2 h5).1
    have pAs : pA S R1 e (se S t) = pA S R e (se S t) := pA_fr hS b3.2.1 fr (by omega)
    have lvT : ∀ {C R : kM}, nd S t C R → lv S C R e (t + 1) → lv S C R e (se S t) → lv S C R (e + 1) t := by
      intro C R g1 g3 g2
      rw [lv]
      exact ⟨g1, fun z => absurd z (by omega), fun z => absurd z (by omega), fun z => absurd z (by omega), fun _ => ⟨g2, fun _ => g3⟩⟩
    rcases post with ⟨rfl, l1, lv1, rw1, pot1⟩ | ⟨rfl, l1⟩ | ⟨rfl, s, l1, su1, lv1⟩ | ⟨rfl, l1⟩
    · rw [if_neg (by decide), if_pos n11] at e49
      have rc := rc_union (T := T) (a := t + 1) (M := tl R1 (t + 1) 1) hS (sR_fr (fr_tl (t := 0) (e := 0)) sR1) ht h5 b1.2.1 (by omega)
      have lp := lp_tl1 (T := T) (f := fI) (M := R1) hS sR1 (by omega) b1.2.1 (by omega) (by rw [b1.2.2.1]; exact rc)
      rw [if_neg (by decide)] at lp
      have ow : own t C1 (sa C1 (lRw t) (fl (gp C1 (lRw t)) 0 (wd S (t + 1)) (fun c => gp C1 (lRw (t + 1)) c))) R1 (sa (tl R1 (t + 1) 1) (lMa 28) (fl (gp (tl R1 (t + 1) 1) (lMa 28)) (t * 12) (wd S t) (fun c => gp (tl R1 (t + 1) 1) (lMa 28) ((t + 1) * 12 + c)))) := own_row (fun i hi => fl_out (by omega))
      refine ⟨1, _, _, f1, e49, frC_trans fc' ow.1 (by omega) (by omega) (by omega) (by omega), sC_sa (by omega) sc1, frR_trans fr' ow.2.1 (by omega) (by omega) (by omega) (by omega), ff, fu_own ow fu1, by rw [ow.2.2.1, tk], Or.inl ⟨rfl, by rw [lp0, l1, lp]; rfl, lvT (nd_row J1) (lv_fr hS b1.2.1 ow.1 ow.2.1 (by omega) (by omega) lv1) (lv_fr hS b3.2.1 ow.1 ow.2.1 (by omega) (by omega) lvs), ?_, ?_⟩⟩
      · intro c hc
        simp (disch := omega) only [gp_ne, gpa_ne, gp_sp, gp_sa, upd_eq, upd_ne, gq_sp, gq_sa]
        rw [fl0_in (by omega), fl_in hc]
        exact rw1 _ (by omega)
      · rw [pe, pe, if_pos l0, if_pos (show gp (sa (tl R1 (t + 1) 1) (lMa 28) _) (lMa 39) t = 0 from r39), pA_fr hS b1.2.1 ow.2.1 (by omega), pA_fr hS b3.2.1 ow.2.1 (by omega), pAs]
        have := pot_up (B := be S (e + 1) t) pot1 ff (by rw [be, if_neg (by omega), if_neg (by omega), if_neg (by omega), if_pos h5]; omega)
        omega
    · rw [if_pos (show nI 0 = 0 from rfl), if_neg (by decide)] at e49
      have re := re_union (T := T) (M := tl R1 (t + 1) 0) hS (sR_fr (fr_tl (t := 0) (e := 0)) sR1) ht h5
      have lp := lp_tl0 (T := T) (f := fI) (M := R1) hS sR1 (by omega) b1.2.1 (by omega) (by rw [b1.2.2.1]; exact re)
      have fcx : frC t t C1 (sp C1 (lTm t) 14 1) := frC_sp (by omega)
      have frx : frR t t R1 (sp (tl R1 (t + 1) 0) (lMa 39) t 1) := frR_trans (t1 := t) (e1 := t) (t2 := t) (e2 := t) fr_tl (frR_mp (by omega) (by omega) (by omega)) (by omega) (by omega) (by omega) (by omega)
      have nd2 : nd S t (sp C1 (lTm t) 14 1) (sp (tl R1 (t + 1) 0) (lMa 39) t 1) := by
        refine ⟨fun z => absurd z (by omega), fun z => absurd z (by omega), fun z => absurd z (by omega), fun z => absurd z (by omega), fun _ => ?_, fun z => absurd z (by omega), ?_, fun z => absurd z (by omega), fun z => absurd z (by omega)⟩
        · simp (disch := omega) only [gp_ne, gpa_ne, gp_sp, gp_sa, upd_eq, upd_ne, gq_sp, gq_sa]
        · simp (disch := omega) only [gp_ne, gpa_ne, gp_sp, gp_sa, upd_eq, upd_ne, gq_sp, gq_sa]; exact Or.inr rfl
      obtain ⟨a, C', R', f', e2, x1, x2, x3, x4, x5, x6, post⟩ := ask_un2 hS ht h5 ih2 f1 (sp C1 (lTm t) 14 1) (sp (tl R1 (t + 1) 0) (lMa 39) t 1) (sC_tm (by omega) sc1) (sR_fr frx sR1) (lv_fr hS b3.2.1 fcx frx (by omega) (by omega) lvs) nd2 (by simp (disch := omega) only [gp_ne, gpa_ne, gp_sp, gp_sa, upd_eq, upd_ne, gq_sp, gq_sa]) fu1
      refine ⟨a, C', R', f', by rw [e49]; exact e2, frC_trans (frC_trans (t := t) (e := en S t) fc' fcx (by omega) (by omega) (by omega) (by omega)) x1 (by omega) (by omega) (by omega) (by omega), x2, frR_trans (frR_trans (t := t) (e := en S t) fr' frx (by omega) (by omega) (by omega) (by omega)) x3 (by omega) (by omega) (by omega) (by omega), by omega, x5, by rw [x6]; exact tk, ?_⟩
      have lp1 : Lp T fI (ak R t) = Lp T fI (ak (sp (tl R1 (t + 1) 0) (lMa 39) t 1) (se S t)) := by rw [lp0, l1, lp]
      have pAq : pA S (sp (tl R1 (t + 1) 0) (lMa 39) t 1) e (se S t) = pA S R e (se S t) := by rw [pA_fr hS b3.2.1 frx (by omega), pAs]
      rcases post with ⟨rfl, y1, y2, y3, y4⟩ | ⟨rfl, y1⟩ | ⟨rfl, s, y1, y2, y3⟩ | ⟨rfl, y1⟩
      · refine Or.inl ⟨rfl, by rw [lp1, y1], y2, y3, ?_⟩
        rw [pAq] at y4
        rw [pe R, if_pos l0]
        have := Nat.mul_le_mul_left (be S (e + 1) t) ff
        omega
      · exact Or.inr (Or.inl ⟨rfl, by rw [lp1, y1]⟩)
      · exact Or.inr (Or.inr (Or.inl ⟨rfl, s, by rw [lp1, y1], y2, y3⟩))
      · exact Or.inr (Or.inr (Or.inr ⟨rfl, by rw [lp1, y1]⟩))
    · rw [if_neg (by decide), if_neg (by decide)] at e49
      exact ⟨2, C1, R1, f1, e49, fc', sc1, fr', ff, fu1, tk, Or.inr (Or.inr (Or.inl ⟨rfl, s, by rw [lp0, l1], Or.inr (Or.inl ⟨⟨by omega, hx, fun z => by omega, fun _ _ _ _ => r39⟩, su1⟩), lvT J1 lv1 lvs⟩))⟩
    · rw [if_neg (by decide), if_neg (by decide)] at e49
      exact ⟨3, C1, R1, f1, e49, fc', sc1, fr', ff, fu1, tk, Or.inr (Or.inr (Or.inr ⟨rfl, by rw [lp0, l1]⟩))⟩
  · rw [if_neg (by rw [l0]; decide)] at e49
    obtain ⟨a, C', R', f', e2, x1, x2, x3, x4, x5, x6, post⟩ := ask_un2 hS ht h5 ih2 f C R hC hR (hL.2.2.2.2 h5).1 hL.1 l0 hF
    refine ⟨a, C', R', f', by rw [e49]; exact e2, x1, x2, x3, x4, x5, x6, ?_⟩
    have lp1 := lp_sec (T := T) (fI := fI) hS hR ht hbn l0
    rcases post with ⟨rfl, y1, y2, y3, y4⟩ | ⟨rfl, y1⟩ | ⟨rfl, s, y1, y2, y3⟩ | ⟨rfl, y1⟩
    · refine Or.inl ⟨rfl, by rw [lp1, y1], y2, y3, ?_⟩
      rw [pe R, if_neg (by rw [l0]; decide)]
      omega
    · exact Or.inr (Or.inl ⟨rfl, by rw [lp1, y1]⟩)
    · exact Or.inr (Or.inr (Or.inl ⟨rfl, s, by rw [lp1, y1], y2, y3⟩))
    · exact Or.inr (Or.inr (Or.inr ⟨rfl, by rw [lp1, y1]⟩))
