set_option maxHeartbeats 4000000 in
theorem tl_tl (R : kM) (x y : Nat) (b c : Int32) : tl (tl R x b) y c = tl R y c := by
  rw [tl_eq, tl_eq, tl_eq, sa_sa, gp_sa]
  congr 1
  funext i
  by_cases h : i = 37
  · simp only [h, if_true]
  · by_cases h1 : i = 36
    · simp only [h1, if_true, Nat.reduceEqDiff, if_false]
    · by_cases h2 : i = 35
      · simp only [h2, if_true, Nat.reduceEqDiff, if_false]
      · simp only [h, h1, h2, if_false]
set_option maxHeartbeats 4000000 in
theorem nd_cg {S : kS} {t : Nat} {C C' R R' : kM} (c15 : gp C' (lTm t) = gp C (lTm t)) (c18 : gp C' (lKp t) = gp C (lKp t)) (c19 : gp C' (lKc t) = gp C (lKc t)) (c20 : gp C' (lKo t) = gp C (lKo t)) (r26 : gp R' (lMa 26) t = gp R (lMa 26) t) (r38 : gp R' (lMa 38) t = gp R (lMa 38) t) (r39 : gp R' (lMa 39) t = gp R (lMa 39) t) (r27 : gp R' (lMa 27) = gp R (lMa 27)) (h : nd S t C R) : nd S t C' R' := by
  unfold nd kr at *
  rw [c15, c18, c19, c20, r26, r38, r39, r27]
  exact h
set_option maxHeartbeats 4000000 in
theorem own_row {t x : Nat} {b : Int32} {C R : kM} {f g : Nat → Int32} (hg : ∀ i, i < t * 12 ∨ t * 12 + 12 ≤ i → g i = gp R (lMa 28) i) : own t C (sa C (lRw t) f) R (sa (tl R x b) (lMa 28) g) := by
  refine ⟨frC_sa (by omega), frR_trans (t1 := t) (e1 := t) (t2 := t) (e2 := t) fr_tl (frR_mr (by omega) hg) (by omega) (by omega) (by omega) (by omega), rfl, rfl⟩
set_option maxHeartbeats 4000000 in
theorem own_tl {t x : Nat} {b : Int32} {C R : kM} : own t C C R (tl R x b) := ⟨frC_refl _ _ _, fr_tl, rfl, rfl⟩
set_option maxHeartbeats 4000000 in
theorem nd_row {S : kS} {t x : Nat} {b : Int32} {C R : kM} {f g : Nat → Int32} (h : nd S t C R) : nd S t (sa C (lRw t) f) (sa (tl R x b) (lMa 28) g) := by
  refine nd_cg ?_ ?_ ?_ ?_ rfl rfl rfl rfl h <;> simp (disch := omega) only [gp_ne, gpa_ne, gp_sp, gp_sa, upd_eq, upd_ne, gq_sp, gq_sa]
set_option maxHeartbeats 4000000 in
theorem nd_tl {S : kS} {t x : Nat} {b : Int32} {C R : kM} (h : nd S t C R) : nd S t C (tl R x b) := nd_cg rfl rfl rfl rfl rfl rfl rfl rfl h
set_option maxHeartbeats 4000000 in
theorem nd_child {S : kS} {n t : Nat} (hS : sOk S n) (ht : t < n) {a b : Nat} (ha : t < a) : ∀ C R C' R', frC a b C C' → frR a b R R' → nd S t C R → nd S t C' R' := fun C R C' R' h1 h2 h3 => nd_congr (cvE_fr h1 (by omega)) (h2.2.2.2 t (by omega)) (nk hS ht).1.2.2.1 h3
set_option maxHeartbeats 4000000 in
/-- the loop's answer as the term's own -/
theorem ask_sel {T : kT} {S : kS} {n E e t d : Nat} {fI : Int32} (hS : sOk S n) (ht : t < n) (hd : d < 10) (h1 : kd S t = 1) (hx : ix S t = 0) (ih : AskOk T S n fI E e (t + 1) (d + 1)) : AskOk T S n fI (E + 1) (e + 1) t d := by
  intro f C R hC hR hL hF
  have hn := nk hS ht
  have b1 := hn.2.2.1 (by omega)
  have b2 := hn.2.2.2.1 (by omega) (by simp only [bin]; omega)
  have hs := hn.2.2.2.2.2.1 h1
  have hw1 := (nk hS b1.2.1).1.2.2.1
  have hL0 := hL
  rw [lv] at hL
  have c3 := hC.2.2.1 t ht
  have hT := hC.1
  have e1 : F_49r T (E + 1) (some t) (nI d) C = F_53_2 T (F_49r T E) (some t) (nI d) (nI 0) C := by
    rw [F_49r]
    unfold F_49 F_53
    rw [kOpt_s, c3.1, h1, if_pos (by simp (disch := omega) only [pn_mulL, pn_addL, pn_addR, pn_ltL, pn_ltR, pn_leL, pn_leR, pn_eqL, pn_eqR, pn_subL, pn_z, pn_add, pn_mul, pn_nat, pn_inj, pn_lt, pn_le, pn_neg, kGx_nI, kGx_L]; omega), c3.2.2.2.2.2.2.2.2.2.1 h1, hx]
    simp (disch := omega) only [pn_mulL, pn_addL, pn_addR, pn_ltL, pn_ltR, pn_leL, pn_leR, pn_eqL, pn_eqR, pn_subL, pn_z, pn_add, pn_mul, pn_nat, pn_inj, pn_lt, pn_le, pn_neg, kGx_nI, kGx_L, kGd_t, kBd_s, kOpt_s, kOpt_n, kLf_s, kAg_l, kAg_r, kAg_f, if_true, if_false, ite_true, ite_false, eq_self_iff_true, ↓reduceIte, Nat.reduceEqDiff, Nat.reduceLeDiff, Nat.reduceLT, Nat.reduceAdd, Nat.reduceMul, Nat.reduceSub, Int32.reduceLT, Int32.reduceLE, Nat.add_zero, Nat.zero_add, Nat.succ_ne_self, Nat.not_lt_zero, Nat.one_ne_zero, Nat.zero_ne_one, i01, i02, i03, i04, i10, i12, i13, i14, i20, i21, i23, i24, i30, i31, i32, i34, i40, i41, i42, i43, not_true_eq_false, not_false_eq_true, lv_tm]
    rw [kBd_id]; rfl
  have lpz := loopG (T := T) (fI := fI) hS ht (by omega) ih (fun q C => F_53_2 T (F_49r T E) (some t) (nI d) (nI q) C) (nd S t) (fun _ => 0) True
    (fun C R C' R' x1 x2 x3 => ⟨nd_child hS ht (by omega) C R C' R' x1 x2 x3, rfl⟩) (by
      intro q C C1 hq hC hC1 r er
      have c3 := hC.2.2.1 t ht
      have c31 := hC1.2.2.1 t ht
      have eq : F_53_2 T (F_49r T E) (some t) (nI d) (nI q) C = kAg (kBd (some (r, C1)) (fun r4 M5 => if r4 = 1 then (kBd (F_68 T (gq M5 (lTm t) 7) (gp M5 (lTm t) 1) M5) (fun r8 M9 => kBd (F_54 T r8 (gp M9 (lTm t) 3) (gp M9 (lTm t) 4) M9) (fun r11 M12 => if r11 = 0 then (some (.inl (nI q + 1, M12))) else (kBd (F_69 T (gq M12 (lTm t) 7) (some t) 0 M12) (fun r15 M16 => some (.inr (1, M16))))))) else (some (.inr (r4, M5))))) (fun w : Int32 × kM => F_53_2 T (F_49r T E) (some t) (nI d) w.1 w.2) := by
        rw [F_53_2_eq]
        unfold B_53_2
        rw [if_neg (by simp (disch := omega) only [pn_mulL, pn_addL, pn_addR, pn_ltL, pn_ltR, pn_leL, pn_leR, pn_eqL, pn_eqR, pn_subL, pn_z, pn_add, pn_mul, pn_nat, pn_inj, pn_lt, pn_le, pn_neg, kGx_nI, kGx_L]; omega), kOpt_s, lv_tm (by omega), kGd_t, c3.2.2.2.2.2.2.1 (by omega), pn_addL, er]
      refine ⟨fun hr => by rw [eq, kBd_s, if_neg hr, kAg_r], fun hr R1 hR1 hJ hrow => ?_⟩
      rw [kBd_s, if_pos hr, c31.2.2.2.2.2.2.1 (by omega), c31.2.1, cl_val hS hC1 b1.2.1 (by omega), kBd_s, c31.2.2.2.1, c31.2.2.2.2.1, cl_so (by omega), kBd_s] at eq
      have rc := rc_sel (T := T) (M := tl R1 (t + 1) 1) hS (sR_fr (fr_tl (t := 0) (e := 0)) hR1) ht h1
      rw [show gp (tl R1 (t + 1) 1) (lMa 28) ((t + 1) * 12 + ch S t) = gp C1 (lRw (t + 1)) (ch S t) from (hrow _ (by omega)).symm] at rc
      have lp := lp_tl1 (T := T) (f := fI) (M := R1) hS hR1 (by omega) b1.2.1 (by omega) (by rw [b1.2.2.1]; exact rc)
      rw [if_neg (by decide)] at lp
      cases hso : soB (gp C1 (lRw (t + 1)) (ch S t)) (hw S t) (vl S t) with
      | false =>
        rw [hso, cond_false, if_pos rfl, kAg_l, pn_addL] at eq
        rw [hso, cond_false] at lp
        exact Or.inl ⟨C1, tl R1 (t + 1) 1, eq, lp, own_tl, hC1, nd_tl hJ, by omega⟩
      | true =>
        rw [hso, cond_true, if_neg (by decide), c31.2.2.2.2.2.2.1 (by omega), cl_copy0 hS hC1 b1.2.1 ht hw1, kBd_s, kAg_r] at eq
        rw [hso, cond_true] at lp
        refine Or.inr (Or.inl ⟨_, sa (tl R1 (t + 1) 1) (lMa 28) _, trivial, eq, lp, own_row (fun i hi => fl_out (by omega)), sC_sa (by omega) hC1, nd_row hJ, fun c hc => ?_⟩)
        simp (disch := omega) only [gp_ne, gpa_ne, gp_sp, gp_sa, upd_eq, upd_ne, gq_sp, gq_sa]
        have z := fl_in (g := gp C1 (lRw t)) (d := 0) (w := wd S (t + 1)) (j := c) (src := fun c => gp C1 (lRw (t + 1)) c) (by omega)
        rw [Nat.zero_add] at z
        rw [z, fl_in (by omega)]
        exact hrow c (by omega))
    _ 0 f C R (Nat.le_refl _) (by have := pot_bd (e := e) (t := t + 1) (f := f) hS b1.2.1 (hL.2.1 (by omega)) hF.2.2; omega) hC hR (hL.2.1 (by omega)) hL.1 hF
  obtain ⟨a, C', R', f', ez, x1, x2, x3, x4, x5, x6, post⟩ := lpz
  refine ⟨a, C', R', f', by rw [e1]; exact ez, x1, x2, x3, x4, x5, x6, ?_⟩
  have hp : pas S R t := ⟨by omega, hx, fun z => by omega, fun z => absurd h1 z⟩
  have lp0 := lp_pas (T := T) (fI := fI) hS hR ht hp
  have pe : ∀ R f, pA S R (e + 1) t + be S (e + 1) t * f = pA S R e (t + 1) + be S e (t + 1) * f := by
    intro R f
    rw [pA, be, if_neg (by omega), if_neg (by omega), if_neg (by omega), if_neg (by omega), if_neg (by omega), if_neg (by omega), if_neg (by omega), if_neg (by omega), if_neg (by omega)]
  have lvT : ∀ {C R : kM}, nd S t C R → lv S C R e (t + 1) → lv S C R (e + 1) t := by
    intro C R g1 g2
    rw [lv]
    exact ⟨g1, fun _ => g2, fun z => absurd z (by omega), fun z => absurd z (by omega), fun z => absurd z (by omega)⟩
  rcases post with ⟨rfl, -, y1, y2, y3, y4, y5⟩ | ⟨rfl, y1, y2, y3⟩ | ⟨rfl, s, y1, y2, y3, y4⟩ | ⟨rfl, y1⟩
  · exact Or.inl ⟨rfl, by rw [lp0, y1], lvT y3 y2, y4, by rw [pe, pe]; exact y5⟩
  · have re := re_pass (T := T) (a := t + 1) (M := tl R' (t + 1) 0) hS (sR_fr (fr_tl (t := 0) (e := 0)) (sR_fr x3 hR)) ht (by omega) b1.2.1 (by omega)
    have lp := lp_tl0 (T := T) (f := fI) (M := R') hS (sR_fr x3 hR) (by omega) b1.2.1 (by omega) (by rw [b1.2.2.1]; exact re)
    exact Or.inr (Or.inl ⟨rfl, by rw [lp0, y1, lp, tl_tl]⟩)
  · refine Or.inr (Or.inr (Or.inl ⟨rfl, s, by rw [lp0, y1], ?_, lvT y4 y3⟩))
    exact Or.inr (Or.inl ⟨⟨by omega, hx, fun z => by omega, fun z => absurd h1 z⟩, y2⟩)
  · exact Or.inr (Or.inr (Or.inr ⟨rfl, by rw [lp0, y1]⟩))
