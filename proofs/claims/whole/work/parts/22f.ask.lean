set_option maxHeartbeats 4000000 in
theorem fl_k {t m w i : Nat} (hm : m < 150) (hw : w ≤ 12) (hi : i < t * 1800 ∨ t * 1800 + 1800 ≤ i) : i < t * 1800 + m * 12 ∨ t * 1800 + m * 12 + w ≤ i := by
  generalize t * 1800 = a at *
  omega
set_option maxHeartbeats 4000000 in
theorem kr_kc {S : kS} {t : Nat} {C R : kM} (h : kr S t C R) : ∃ m o, kc S t m o C ∧ gp R (lMa 26) t = nI m ∧ (kd S t = 10 → m ≤ 60 ∧ ∀ i, o i = i) ∧ ∀ i, i < m → ∀ c, c < wd S t → gp C (lKc t) (o i * 12 + c) = gp R (lMa 27) (t * 1800 + i * 12 + c) := by
  obtain ⟨m, o, h1, h2, h3, h4, h5, h6⟩ := h
  exact ⟨m, o, ⟨h1, h3, h4, fun i hi => ⟨(h6 i hi).1, (h6 i hi).2.1⟩⟩, h5, h2, fun i hi => (h6 i hi).2.2⟩
set_option maxHeartbeats 4000000 in
theorem kc_kr {S : kS} {t m : Nat} {o : Nat → Nat} {C R : kM} (h : kc S t m o C) (h5 : gp R (lMa 26) t = nI m) (h2 : kd S t = 10 → m ≤ 60 ∧ ∀ i, o i = i) (h6 : ∀ i, i < m → ∀ c, c < wd S t → gp C (lKc t) (o i * 12 + c) = gp R (lMa 27) (t * 1800 + i * 12 + c)) : kr S t C R :=
  ⟨m, o, h.1, h2, h.2.1, h.2.2.1, h5, fun i hi => ⟨(h.2.2.2 i hi).1, (h.2.2.2 i hi).2, h6 i hi⟩⟩
set_option maxHeartbeats 4000000 in
theorem kc_row {S : kS} {t m : Nat} {o : Nat → Nat} {C : kM} {f : Nat → Int32} (h : kc S t m o C) : kc S t m o (sa C (lRw t) f) := by
  unfold kc at *
  simp (disch := omega) only [gp_ne, gpa_ne, gp_sp, gp_sa, upd_eq, upd_ne, gq_sp, gq_sa]
  exact h
set_option maxHeartbeats 4000000 in
theorem ask_dist {T : kT} {S : kS} {n E e t d : Nat} {fI : Int32} (hS : sOk S n) (ht : t < n) (hd : d < 10) (h1 : kd S t = 6) (ih : AskOk T S n fI E e (t + 1) (d + 1)) : AskOk T S n fI (E + 1) (e + 1) t d := by
  intro f C R hC hR hL hF
  have hn := nk hS ht
  have hN := hS.1
  have b1 := hn.2.2.1 (by omega)
  have b2 := hn.2.2.2.1 (by omega) (by simp only [bin]; omega)
  have hs := hn.2.2.2.2.2.2.2.2.2.2.1 h1
  have hw1 := (nk hS b1.2.1).1.2.2.1
  have hw0 := hn.1.2.2.1
  have hx1 := hn.2.2.2.2.2.2.2.2.2.2.2.2.2.2.2
  have hx : ix S t = 0 := by rw [hx1, if_neg (by omega)]
  have hL0 := hL
  rw [lv] at hL
  have c3 := hC.2.2.1 t ht
  have hT := hC.1
  have e1 : F_49r T (E + 1) (some t) (nI d) C = F_60_2 T (F_49r T E) (some t) (nI d) (nI 0) C := by
    rw [F_49r]
    unfold F_49 F_60
    rw [kOpt_s, c3.1, h1, if_pos (by simp (disch := omega) only [pn_mulL, pn_addL, pn_addR, pn_ltL, pn_ltR, pn_leL, pn_leR, pn_eqL, pn_eqR, pn_subL, pn_z, pn_add, pn_mul, pn_nat, pn_inj, pn_lt, pn_le, pn_neg, kGx_nI, kGx_L]; omega)]
    simp (disch := omega) only [pn_mulL, pn_addL, pn_addR, pn_ltL, pn_ltR, pn_leL, pn_leR, pn_eqL, pn_eqR, pn_subL, pn_z, pn_add, pn_mul, pn_nat, pn_inj, pn_lt, pn_le, pn_neg, kGx_nI, kGx_L, kGd_t, kBd_s, kOpt_s, kOpt_n, kLf_s, kAg_l, kAg_r, kAg_f, if_true, if_false, ite_true, ite_false, eq_self_iff_true, ↓reduceIte, Nat.reduceEqDiff, Nat.reduceLeDiff, Nat.reduceLT, Nat.reduceAdd, Nat.reduceMul, Nat.reduceSub, Int32.reduceLT, Int32.reduceLE, Nat.add_zero, Nat.zero_add, Nat.succ_ne_self, Nat.not_lt_zero, Nat.one_ne_zero, Nat.zero_ne_one, i01, i02, i03, i04, i10, i12, i13, i14, i20, i21, i23, i24, i30, i31, i32, i34, i40, i41, i42, i43, not_true_eq_false, not_false_eq_true, lv_tm]
    rw [kBd_id]; rfl
  have lpz := loopG (T := T) (fI := fI) hS ht (by omega) ih (fun q C => F_60_2 T (F_49r T E) (some t) (nI d) (nI q) C) (nd S t) (fun _ => 0) True
    (fun C R C' R' x1 x2 x3 => ⟨nd_child hS ht (by omega) C R C' R' x1 x2 x3, rfl⟩) (by
      intro q C C1 hq hC hC1 r er
      have c3 := hC.2.2.1 t ht
      have c31 := hC1.2.2.1 t ht
      have thr := cl_thr (T := T) (t := t) (a := t + 1) (d := d) hS hC1 ht b1.2.1 er
      have eq : F_60_2 T (F_49r T E) (some t) (nI d) (nI q) C = kAg (kBd (some (r, if r = 1 then sa C1 (lRw t) (fl (gp C1 (lRw t)) 0 (wd S (t + 1)) (fun c => gp C1 (lRw (t + 1)) c)) else C1)) (fun r4 M5 => if r4 = 1 then (kBd (F_27 T t (lRw t) M5) (fun r8 M9 => if r8 = 0 then (kBd (F_24 T t (lRw t) M9) (fun r12 M13 => if r12 = 0 then (some (.inr (3, M13))) else (some (.inr (1, M13))))) else (some (.inl (nI q + 1, M9))))) else (some (.inr (r4, M5))))) (fun w : Int32 × kM => F_60_2 T (F_49r T E) (some t) (nI d) w.1 w.2) := by
        rw [F_60_2_eq]
        unfold B_60_2
        rw [if_neg (by simp (disch := omega) only [pn_mulL, pn_addL, pn_addR, pn_ltL, pn_ltR, pn_leL, pn_leR, pn_eqL, pn_eqR, pn_subL, pn_z, pn_add, pn_mul, pn_nat, pn_inj, pn_lt, pn_le, pn_neg, kGx_nI, kGx_L]; omega), kOpt_s, lv_tm (by omega), kGd_t, c3.2.2.2.2.2.2.1 (by omega), thr]
      refine ⟨fun hr => by rw [eq, kBd_s, if_neg hr, if_neg hr, kAg_r], fun hr R1 hR1 hJ hrow => ?_⟩
      obtain ⟨m, o, k1, k2, k3, k4⟩ := kr_kc (hJ.2.2.2.2.2.2.2.2 (by omega))
      have hm := k1.1
      have rc := rc_dist (T := T) (m := m) (M := tl R1 (t + 1) 1) hS (sR_fr (fr_tl (t := 0) (e := 0)) hR1) ht h1 k2 hm
      have lpf : ∀ {b : Int32} {M' : kM}, F_131 T (nI t) (nI (t + 1)) (tl R1 (t + 1) 1) = some (b, M') → Lp T fI (tl R1 (t + 1) 1) = if b = 0 then Lq T fI 3 M' else Lp T fI M' := fun h => lp_tl1 (T := T) (f := fI) (M := R1) hS hR1 (by omega) b1.2.1 (by omega) (by rw [b1.2.2.1]; exact h)
      simp only [if_pos hr] at eq
      rw [kBd_s, if_pos hr] at eq
      generalize hC2 : sa C1 (lRw t) (fl (gp C1 (lRw t)) 0 (wd S (t + 1)) (fun c => gp C1 (lRw (t + 1)) c)) = C2 at eq
      have sC2 : sC T S n C2 := by rw [← hC2]; exact sC_sa (by omega) hC1
      have kc2 : kc S t m o C2 := by rw [← hC2]; exact kc_row k1
      have rw2 : ∀ c, c < wd S t → gp C2 (lRw t) c = gp C1 (lRw (t + 1)) c := by
        intro c hc
        rw [← hC2]
        simp (disch := omega) only [gp_ne, gpa_ne, gp_sp, gp_sa, upd_eq, upd_ne, gq_sp, gq_sa]
        exact fl0_in (by omega)
      have cl2 : gp C2 (lKc t) = gp C1 (lKc t) := by rw [← hC2]; simp (disch := omega) only [gp_ne, gpa_ne, gp_sp, gp_sa, upd_eq, upd_ne, gq_sp, gq_sa]
      rw [cl_holds hS sC2 ht kc2, kBd_s] at eq
      have same : exB (hoB S C2 t o) m 0 = exB (ikB S (tl R1 (t + 1) 1) t) m 0 := by
        refine exB_congr m 0 (fun i _ hi => ?_)
        unfold hoB ikB
        rw [← hs]
        refine alB_congr _ 0 (fun c _ hc => ?_)
        have z1 := k4 i (by omega) c (by omega)
        have z2 := hrow c (by omega)
        rw [rw2 c (by omega), cl2, z1, z2]
        rfl
      rw [same] at eq
      have ow1 : frC t t C1 C2 := by rw [← hC2]; exact frC_sa (by omega)
      have lru : gp C2 lRu = gp C1 lRu := by rw [← hC2]; simp (disch := omega) only [gp_ne, gpa_ne, gp_sp, gp_sa, upd_eq, upd_ne, gq_sp, gq_sa]
      unfold dsR at rc
      cases hB : exB (ikB S (tl R1 (t + 1) 1) t) m 0 with
      | true =>
        rw [hB, cond_true, if_neg (by decide), kAg_l, pn_addL] at eq
        rw [hB, cond_true] at rc
        have lp := lpf rc
        rw [if_neg (by decide)] at lp
        refine Or.inl ⟨C2, tl R1 (t + 1) 1, eq, lp, ⟨ow1, fr_tl, lru, rfl⟩, sC2, ?_, by omega⟩
        rw [← hC2]
        refine nd_cg ?_ ?_ ?_ ?_ rfl rfl rfl rfl hJ <;> simp (disch := omega) only [gp_ne, gpa_ne, gp_sp, gp_sa, upd_eq, upd_ne, gq_sp, gq_sa]
      | false =>
        rw [hB, cond_false, if_pos rfl, cl_add hS sC2 ht kc2] at eq
        rw [hB, cond_false] at rc
        by_cases qm : m < 150
        · rw [if_pos qm, kBd_s, if_neg (by decide), kAg_r] at eq
          rw [if_pos qm] at rc
          have lp := lpf rc
          rw [if_neg (by decide)] at lp
          refine Or.inr (Or.inl ⟨adM S C2 t m, sa (sp (lyM S (tl R1 (t + 1) 1) t m) (lMa 26) t (nI (m + 1))) (lMa 28) _, trivial, eq, lp, ⟨?_, ?_, ?_, rfl⟩, ?_, ?_, fun c hc => ?_⟩)
          · refine frC_trans (t1 := t) (e1 := t) (t2 := t) (e2 := t) ow1 ?_ (by omega) (by omega) (by omega) (by omega)
            exact frC_trans (t1 := t) (e1 := t) (t2 := t) (e2 := t) (frC_trans (t := t) (e := t) (t1 := t) (e1 := t) (t2 := t) (e2 := t) (frC_sa (by omega)) (frC_sp (by omega)) (by omega) (by omega) (by omega) (by omega)) (frC_sp (by omega)) (by omega) (by omega) (by omega) (by omega)
          · refine frR_trans (t1 := t) (e1 := t) (t2 := t) (e2 := t) ?_ (frR_mr (by omega) (fun i hi => fl_out (by omega))) (by omega) (by omega) (by omega) (by omega)
            refine frR_trans (t1 := t) (e1 := t) (t2 := t) (e2 := t) ?_ (frR_mp (by omega) (by omega) (by omega)) (by omega) (by omega) (by omega) (by omega)
            unfold lyM
            refine frR_trans (t1 := t) (e1 := t) (t2 := t) (e2 := t) fr_tl (frR_mk (fun i hi => ?_)) (by omega) (by omega) (by omega) (by omega)
            exact fl_out (fl_k qm hw1 hi)
          · rw [← lru]; unfold adM; simp (disch := omega) only [gp_ne, gpa_ne, gp_sp, gp_sa, upd_eq, upd_ne, gq_sp, gq_sa]
          · exact sC_sp (by omega) (sC_sp (by omega) (sC_sa (by omega) sC2))
          · refine ⟨fun z => absurd z (by omega), fun z => absurd z (by omega), fun z => absurd z (by omega), fun z => absurd z (by omega), fun z => absurd z (by omega), fun z => absurd z (by omega), ?_, fun z => absurd z (by omega), fun _ => ?_⟩
            · exact hJ.2.2.2.2.2.2.1
            · refine kc_kr (kc_ad (n := n) kc2 qm) ?_ (fun z => absurd z (by omega)) (fun i hi c hc => ?_)
              · simp (disch := omega) only [gp_ne, gpa_ne, gp_sp, gp_sa, upd_eq, upd_ne, gq_sp, gq_sa]
              · unfold adM lyM
                simp (disch := omega) only [gp_ne, gpa_ne, gp_sp, gp_sa, upd_eq, upd_ne, gq_sp, gq_sa]
                by_cases qi : i = m
                · subst qi
                  rw [if_pos rfl, fl_in (by omega), rw2 c hc]
                  rw [show t * 1800 + i * 12 + c = (t * 1800 + i * 12) + c from rfl, fl_in (by omega)]
                  exact hrow c (by omega)
                · have oi := k1.2.2.2 i (by omega)
                  rw [if_neg qi, fl_out (by omega), fl_out (by omega), cl2]
                  exact k4 i (by omega) c hc
          · have z2 := hrow c (by omega)
            unfold adM lyM
            simp (disch := omega) only [gp_ne, gpa_ne, gp_sp, gp_sa, upd_eq, upd_ne, gq_sp, gq_sa]
            rw [rw2 c hc, fl_in hc]
            exact z2
        · rw [if_neg qm, kBd_s, if_pos rfl, kAg_r] at eq
          rw [if_neg qm] at rc
          have lp := lpf rc
          rw [if_pos rfl] at lp
          exact Or.inr (Or.inr ⟨C2, tl R1 (t + 1) 1, eq, lp, ⟨ow1, fr_tl, lru, rfl⟩, sC2⟩))
    _ 0 f C R (Nat.le_refl _) (by have := pot_bd (e := e) (t := t + 1) (f := f) hS b1.2.1 (hL.2.1 (by omega)) hF.2.2; omega) hC hR (hL.2.1 (by omega)) hL.1 hF
  obtain ⟨a, C', R', f', ez, x1, x2, x3, x4, x5, x6, post⟩ := lpz
  refine ⟨a, C', R', f', by rw [e1]; exact ez, x1, x2, x3, x4, x5, x6, ?_⟩
  have hp : pas S R t := ⟨by omega, hx, fun z => by omega, fun _ _ z => absurd h1 z⟩
  have lp0 := lp_pas (T := T) (fI := fI) hS hR ht hp
  have pe : ∀ R f, pA S R (e + 1) t + be S (e + 1) t * f = pA S R e (t + 1) + be S e (t + 1) * f := by
    intro R f
    rw [pA, be, if_neg (by omega), if_neg (by omega), if_neg (by omega), if_neg (by omega), if_neg (by omega), if_neg (by omega), if_neg (by omega), if_neg (by omega), if_neg (by omega)]
  have lvT : ∀ {C R : kM}, nd S t C R → lv S C R e (t + 1) → lv S C R (e + 1) t := by
    intro C R g1 g2
    rw [lv]
    exact ⟨g1, fun _ => g2, fun z => absurd z (by omega), fun z => absurd z (by omega), fun z => absurd z (by omega)⟩
  rcases post with ⟨rfl, -, y1, y2, y3, y4, y5⟩ | ⟨rfl, y1, y2, y3⟩ | ⟨rfl, s, y1, y2, y3, y4⟩ | ⟨rfl, y1⟩
  · exact Or.inl ⟨rfl, by rw [lp0, y1], lvT y3 y2, y4, by rw [pe, pe]; exact y5⟩
  · have re := re_pass (T := T) (a := t + 1) (M := tl R' (t + 1) 0) hS (sR_fr (fr_tl (t := 0) (e := 0)) (sR_fr x3 hR)) ht (by omega) b1.2.1 (by omega)
    have lp := lp_tl0 (T := T) (f := fI) (M := R') hS (sR_fr x3 hR) (by omega) b1.2.1 (by omega) (by rw [b1.2.2.1]; exact re)
    exact Or.inr (Or.inl ⟨rfl, by rw [lp0, y1, lp, tl_tl]⟩)
  · refine Or.inr (Or.inr (Or.inl ⟨rfl, s, by rw [lp0, y1], ?_, lvT y4 y3⟩))
    exact Or.inr (Or.inl ⟨⟨by omega, hx, fun z => by omega, fun _ _ z => absurd h1 z⟩, y2⟩)
  · exact Or.inr (Or.inr (Or.inr ⟨rfl, by rw [lp0, y1]⟩))
