set_option maxHeartbeats 4000000 in
theorem kp_group {T : kT} {S : kS} {n t : Nat} {C1 R1 : kM} (hS : sOk S n) (ht : t < n) (h10 : kd S t = 10) (hC : sC T S n C1) (hR : sR S n R1) (hJ : nd S t C1 R1) (h0 : gp R1 (lMa 39) t = 0) (hrow : ∀ c, c < wd S (t + 1) → gp C1 (lRw (t + 1)) c = gp R1 (lMa 28) ((t + 1) * 12 + c)) : kpS T S n t (fun R => gn R 26 t) C1 R1 := by
  have hN := hS.1
  have hT := hC.1
  have hn := nk hS ht
  have b1 := hn.2.2.1 (by omega)
  have hs := hn.2.2.2.2.2.2.2.2.2.2.2.2.2.2.1 h10
  have hw1 := (nk hS b1.2.1).1.2.2.1
  have c3 := hC.2.2.1 t ht
  have hx1 := hn.2.2.2.2.2.2.2.2.2.2.2.2.2.2.2
  have hx : ix S t = 0 := by rw [hx1, if_neg (by omega)]
  obtain ⟨m, o, k1, k2, k3, k4⟩ := kr_kc (hJ.2.2.2.2.2.2.2.2 (by omega))
  have hm := (k3 h10).1
  have ho := (k3 h10).2
  have rc := rc_group (T := T) (m := m) (M := tl R1 (t + 1) 1) hS (sR_fr (fr_tl (t := 0) (e := 0)) hR) ht h10 k2 hm
  have z1 := hrow (ch S t) (by omega)
  have z2 := hrow (ot S t) (by omega)
  have fq : fiB (fun i => decide (gp C1 (lKc t) (o i * 12 + 0) = gp C1 (lRw (t + 1)) (ch S t))) m 0 = gri S (tl R1 (t + 1) 1) t m := by
    unfold gri
    refine fiB_congr m 0 (fun i _ hi => ?_)
    have := k4 i (by omega) 0 (by omega)
    rw [this, z1]; rfl
  have hle : gri S (tl R1 (t + 1) 1) t m ≤ m := by rw [← fq]; have := fiB_le (p := fun i => decide (gp C1 (lKc t) (o i * 12 + 0) = gp C1 (lRw (t + 1)) (ch S t))) m 0; omega
  have e66 : F_65 T (some t) C1 = kBd (F_66 T (some t) C1) (fun r13 M14 => kGd (r13 == 0 || r13 == 1) (some (r13, M14))) := by
    unfold F_65
    rw [kOpt_s, lv_tm (by omega), kGd_t, c3.1, h10, if_pos (by decide)]
  obtain ⟨p, m', y1, y2, y3, y4, y5, y6⟩ := hJ.2.2.2.2.2.2.2.1 (by omega)
  have p0 := y6 h0
  have j6 := hJ.2.2.2.2.2.1 (by omega)
  unfold F_66 at e66
  rw [kOpt_s, lv_tm (by omega), kGd_t, c3.2.2.2.2.2.2.1 (by omega), c3.2.1, cl_val hS hC b1.2.1 (by omega), kBd_s, c3.2.2.2.2.2.2.1 (by omega), c3.2.2.1, cl_val hS hC b1.2.1 (by omega), kBd_s, cl_find hS hC ht k1, kBd_s, fq, k1.2.2.1] at e66
  unfold grR at rc
  generalize hgi : gri S (tl R1 (t + 1) 1) t m = q at *
  by_cases qm : q < m
  · rw [if_pos qm] at rc
    rw [if_neg (by simp (disch := omega) only [pn_mulL, pn_addL, pn_addR, pn_ltL, pn_ltR, pn_leL, pn_leR, pn_eqL, pn_eqR, pn_subL, pn_z, pn_add, pn_mul, pn_nat, pn_inj, pn_lt, pn_le, pn_neg, kGx_nI, kGx_L]; omega), show (1 : Int32) = nI 1 from rfl, cl_kval hS hC ht k1 qm (by omega), kBd_s, c3.2.2.2.1, cl_comb hs.2.2.2.2.2.1, kBd_s, cl_kset hS hC ht k1 qm (by omega), kBd_s] at e66
    have cv : cb (hw S t) (gp C1 (lKc t) (o q * 12 + 1)) (gp C1 (lRw (t + 1)) (ot S t)) = cb (hw S t) (kp (tl R1 (t + 1) 1) t q 1) (gp (tl R1 (t + 1) 1) (lMa 28) ((t + 1) * 12 + ot S t)) := by
      rw [k4 q qm 1 (by omega), z2]; rfl
    rw [cv] at e66
    generalize cb (hw S t) (kp (tl R1 (t + 1) 1) t q 1) (gp (tl R1 (t + 1) 1) (lMa 28) ((t + 1) * 12 + ot S t)) = x at *
    refine Or.inl ⟨_, _, e66, rc, ⟨frC_sp (by omega), ?_, ?_, rfl⟩, sC_sp (by omega) hC, ?_, h0, ?_⟩
    · refine frR_trans (t1 := t) (e1 := t) (t2 := t) (e2 := t) fr_tl (frR_mk (fun i hi => upd_ne ?_)) (by omega) (by omega) (by omega) (by omega)
      generalize t * 1800 = a at hi ⊢
      omega
    · simp (disch := omega) only [gp_ne, gpa_ne, gp_sp, gp_sa, upd_eq, upd_ne, gq_sp, gq_sa]
    · refine ⟨fun z => absurd z (by omega), fun z => absurd z (by omega), fun z => absurd z (by omega), fun z => absurd z (by omega), fun z => absurd z (by omega), fun _ => ?_, hJ.2.2.2.2.2.2.1, fun _ => ⟨0, m, by omega, by omega, k2, ?_, ?_, fun _ => rfl⟩, fun _ => ?_⟩
      · simp (disch := omega) only [gp_ne, gpa_ne, gp_sp, gp_sa, upd_eq, upd_ne, gq_sp, gq_sa]; rw [j6]; rfl
      · simp (disch := omega) only [gp_ne, gpa_ne, gp_sp, gp_sa, upd_eq, upd_ne, gq_sp, gq_sa]; rw [y4, p0]
      · rw [← p0]; exact y5
      · refine kc_kr (m := m) (o := o) ?_ k2 (fun _ => ⟨hm, ho⟩) (fun i hi c hc => ?_)
        · unfold kc at *
          simp (disch := omega) only [gp_ne, gpa_ne, gp_sp, gp_sa, upd_eq, upd_ne, gq_sp, gq_sa]
          exact k1
        · simp (disch := omega) only [gp_ne, gpa_ne, gp_sp, gp_sa, upd_eq, upd_ne, gq_sp, gq_sa]
          have h1 := ho i
          have h2 := ho q
          have kk := k4 i hi c hc
          rw [h1] at kk ⊢
          rw [h2]
          by_cases qq : i = q ∧ c = 1
          · rw [qq.1, qq.2, upd_eq, upd_eq]
          · rw [upd_ne (by omega), upd_ne (by generalize t * 1800 = a; omega), kk]; rfl
    · exact Nat.le_succ _
  · have qe : q = m := by omega
    rw [if_neg qm] at rc
    rw [if_pos (by simp (disch := omega) only [pn_mulL, pn_addL, pn_addR, pn_ltL, pn_ltR, pn_leL, pn_leR, pn_eqL, pn_eqR, pn_subL, pn_z, pn_add, pn_mul, pn_nat, pn_inj, pn_lt, pn_le, pn_neg, kGx_nI, kGx_L]; omega)] at e66
    by_cases q6 : m < 60
    · rw [if_pos q6] at rc
      rw [if_pos (by simp (disch := omega) only [pn_mulL, pn_addL, pn_addR, pn_ltL, pn_ltR, pn_leL, pn_leR, pn_eqL, pn_eqR, pn_subL, pn_z, pn_add, pn_mul, pn_nat, pn_inj, pn_lt, pn_le, pn_neg, kGx_nI, kGx_L]; omega)] at e66
      have g3 : gp (sp C1 (lRw t) (0 : Int32).toNatClampNeg (gp C1 (lRw (t + 1)) (ch S t))) (lTm t) 3 = nI (hw S t) := by simp (disch := omega) only [gp_ne, gpa_ne, gp_sp, gp_sa, upd_eq, upd_ne, gq_sp, gq_sa]; exact c3.2.2.2.1
      rw [g3] at e66
      have fin : ∀ x : Int32, F_66_104 T t t x 1 t (sp C1 (lRw t) 0 (gp C1 (lRw (t + 1)) (ch S t))) = some (1, adM S (sp (sp C1 (lRw t) 0 (gp C1 (lRw (t + 1)) (ch S t))) (lRw t) 1 x) t m) := by
        intro x
        have hC' : sC T S n (sp (sp C1 (lRw t) 0 (gp C1 (lRw (t + 1)) (ch S t))) (lRw t) 1 x) := sC_sp (by omega) (sC_sp (by omega) hC)
        have k1' : kc S t m o (sp (sp C1 (lRw t) 0 (gp C1 (lRw (t + 1)) (ch S t))) (lRw t) 1 x) := kc_row (kc_row k1)
        have ad := cl_add (T := T) hS hC' ht k1'
        rw [if_pos (by omega)] at ad
        unfold F_66_104
        simp (disch := omega) only [lv_tm, kGd_t, kBd_s, kOpt_s, kOpt_n, kLf_s, kAg_l, kAg_r, kAg_f, if_true, if_false, ite_true, ite_false, eq_self_iff_true, ↓reduceIte, Nat.reduceEqDiff, Nat.reduceLeDiff, Nat.reduceLT, Nat.reduceAdd, Nat.reduceMul, Nat.reduceSub, Int32.reduceLT, Int32.reduceLE, Nat.add_zero, Nat.zero_add, Nat.succ_ne_self, Nat.not_lt_zero, Nat.one_ne_zero, Nat.zero_ne_one, i01, i02, i03, i04, i10, i12, i13, i14, i20, i21, i23, i24, i30, i31, i32, i34, i40, i41, i42, i43, not_true_eq_false, not_false_eq_true, pn_mulL, pn_addL, pn_addR, pn_ltL, pn_ltR, pn_leL, pn_leR, pn_eqL, pn_eqR, pn_subL, pn_z, pn_add, pn_mul, pn_nat, pn_inj, pn_lt, pn_le, pn_neg, kGx_nI, kGx_L]
        rw [show (1 : Int32).toNatClampNeg = 1 from rfl, ad]
        rfl
      have e2 : F_65 T (some t) C1 = some (1, adM S (sp (sp C1 (lRw t) 0 (gp C1 (lRw (t + 1)) (ch S t))) (lRw t) 1 (if hw S t = 0 then 1 else gp C1 (lRw (t + 1)) (ot S t))) t m) := by
        rw [e66]
        simp (disch := omega) only [pn_mulL, pn_addL, pn_addR, pn_ltL, pn_ltR, pn_leL, pn_leR, pn_eqL, pn_eqR, pn_subL, pn_z, pn_add, pn_mul, pn_nat, pn_inj, pn_lt, pn_le, pn_neg, kGx_nI, kGx_L]
        by_cases o0 : hw S t = 0
        · rw [if_pos o0, if_pos o0, fin]; rfl
        · rw [if_neg o0, if_neg o0, fin]; rfl
      have kcA : kc S t (m + 1) (fun i => if i = m then m else o i) (adM S (sp (sp C1 (lRw t) 0 (gp C1 (lRw (t + 1)) (ch S t))) (lRw t) 1 (if hw S t = 0 then 1 else gp C1 (lRw (t + 1)) (ot S t))) t m) := kc_ad (n := n) (kc_row (kc_row k1)) (by omega)
      refine Or.inl ⟨_, grN S (tl R1 (t + 1) 1) t m, e2, rc, ⟨?_, ?_, ?_, rfl⟩, ?_, ?_, h0, ?_⟩
      · unfold adM
        refine frC_trans (t1 := t) (e1 := t) (t2 := t) (e2 := t) ?_ (frC_sp (by omega)) (by omega) (by omega) (by omega) (by omega)
        refine frC_trans (t1 := t) (e1 := t) (t2 := t) (e2 := t) ?_ (frC_sp (by omega)) (by omega) (by omega) (by omega) (by omega)
        refine frC_trans (t1 := t) (e1 := t) (t2 := t) (e2 := t) ?_ (frC_sa (by omega)) (by omega) (by omega) (by omega) (by omega)
        exact frC_trans (t1 := t) (e1 := t) (t2 := t) (e2 := t) (frC_sp (by omega)) (frC_sp (by omega)) (by omega) (by omega) (by omega) (by omega)
      · unfold grN
        refine frR_trans (t1 := t) (e1 := t) (t2 := t) (e2 := t) ?_ (frR_mk (fun i hi => upd_ne (by generalize t * 1800 = a at *; omega))) (by omega) (by omega) (by omega) (by omega)
        refine frR_trans (t1 := t) (e1 := t) (t2 := t) (e2 := t) ?_ (frR_mp (by omega) (by omega) (by omega)) (by omega) (by omega) (by omega) (by omega)
        refine frR_trans (t1 := t) (e1 := t) (t2 := t) (e2 := t) ?_ (frR_mk (fun i hi => upd_ne (by generalize t * 1800 = a at *; omega))) (by omega) (by omega) (by omega) (by omega)
        exact frR_trans (t1 := t) (e1 := t) (t2 := t) (e2 := t) fr_tl (frR_mk (fun i hi => upd_ne (by generalize t * 1800 = a at *; omega))) (by omega) (by omega) (by omega) (by omega)
      · unfold adM; simp (disch := omega) only [gp_ne, gpa_ne, gp_sp, gp_sa, upd_eq, upd_ne, gq_sp, gq_sa]
      · exact sC_sp (by omega) (sC_sp (by omega) (sC_sa (by omega) (sC_sp (by omega) (sC_sp (by omega) hC))))
      · refine ⟨fun z => absurd z (by omega), fun z => absurd z (by omega), fun z => absurd z (by omega), fun z => absurd z (by omega), fun z => absurd z (by omega), fun _ => ?_, hJ.2.2.2.2.2.2.1, fun _ => ⟨0, m + 1, by omega, by omega, ?_, ?_, ?_, fun _ => rfl⟩, fun _ => ?_⟩
        · unfold adM; simp (disch := omega) only [gp_ne, gpa_ne, gp_sp, gp_sa, upd_eq, upd_ne, gq_sp, gq_sa]; rw [j6]; rfl
        · unfold grN; simp (disch := omega) only [gp_ne, gpa_ne, gp_sp, gp_sa, upd_eq, upd_ne, gq_sp, gq_sa]
        · unfold adM; simp (disch := omega) only [gp_ne, gpa_ne, gp_sp, gp_sa, upd_eq, upd_ne, gq_sp, gq_sa]; rw [y4, p0]
        · rw [← p0]; exact y5
        · refine kc_kr kcA ?_ (fun _ => ⟨by omega, fun i => ?_⟩) (fun i hi c hc => ?_)
          · unfold grN; simp (disch := omega) only [gp_ne, gpa_ne, gp_sp, gp_sa, upd_eq, upd_ne, gq_sp, gq_sa]
          · show (if i = m then m else o i) = i
            by_cases qi : i = m
            · rw [if_pos qi, qi]
            · rw [if_neg qi, ho]
          · have e3 : ∀ c, c < 2 → gp (sp (sp C1 (lRw t) 0 (gp C1 (lRw (t + 1)) (ch S t))) (lRw t) 1 (if hw S t = 0 then 1 else gp C1 (lRw (t + 1)) (ot S t))) (lRw t) c = if c = 0 then gp C1 (lRw (t + 1)) (ch S t) else (if hw S t = 0 then 1 else gp C1 (lRw (t + 1)) (ot S t)) := by
              intro c hc
              by_cases cz : c = 0
              · rw [if_pos cz, cz]; simp (disch := omega) only [gp_ne, gpa_ne, gp_sp, gp_sa, upd_eq, upd_ne, gq_sp, gq_sa]
              · rw [if_neg cz, show c = 1 by omega]; simp (disch := omega) only [gp_ne, gpa_ne, gp_sp, gp_sa, upd_eq, upd_ne, gq_sp, gq_sa]
            unfold adM grN
            simp (disch := omega) only [gp_ne, gpa_ne, gp_sp, gp_sa, upd_eq, upd_ne, gq_sp, gq_sa]
            by_cases qi : i = m
            · rw [if_pos qi, qi, fl_in hc]
              have e3c := e3 c (by omega)
              simp only [gp_sp] at e3c
              rw [e3c]
              by_cases cz : c = 0
              · rw [if_pos cz, cz, upd_ne (by omega), upd_ne (by omega), Nat.add_zero (t * 1800 + m * 12), upd_eq]
                exact z1
              · rw [if_neg cz, show c = 1 by omega, upd_eq, z2]; rfl
            · have h1 := ho i
              have kk := k4 i (by omega) c hc
              rw [if_neg qi, h1] at *
              rw [fl_out (by omega), kk]
              have ne1 : t * 1800 + i * 12 + c ≠ t * 1800 + m * 12 + 1 := by generalize t * 1800 = a; omega
              have ne2 : t * 1800 + i * 12 + c ≠ t * 1800 + m * 12 := by generalize t * 1800 = a; omega
              rw [upd_ne ne1, upd_ne ne1, upd_ne ne2]; rfl
      · show gn (grN S (tl R1 (t + 1) 1) t m) 26 t ≤ gn R1 26 t + 1
        unfold gn grN
        rw [k2, pn_nat (by omega)]
        simp (disch := omega) only [gp_ne, gpa_ne, gp_sp, gp_sa, upd_eq, upd_ne, gq_sp, gq_sa]
        rw [pn_nat (by omega)]
        omega
    · rw [if_neg q6] at rc
      rw [if_neg (by simp (disch := omega) only [pn_mulL, pn_addL, pn_addR, pn_ltL, pn_ltR, pn_leL, pn_leR, pn_eqL, pn_eqR, pn_subL, pn_z, pn_add, pn_mul, pn_nat, pn_inj, pn_lt, pn_le, pn_neg, kGx_nI, kGx_L]; omega)] at e66
      exact Or.inr ⟨C1, e66, rc, own_tl, hC⟩
