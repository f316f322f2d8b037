set_option maxHeartbeats 4000000 in
theorem shf_gt {g : Nat → Int32} {t w q m i c : Nat} (h1 : q < i) (h2 : i ≤ m) (h3 : c < w) (h4 : w ≤ 12) : shf g t w q m (t * 1800 + i * 12 + c) = g (t * 1800 + (i - 1) * 12 + c) := by
  unfold shf
  generalize t * 1800 = a
  rw [if_pos (by omega), show a + i * 12 + c - 12 = a + (i - 1) * 12 + c by omega]
set_option maxHeartbeats 4000000 in
theorem shf_lt {g : Nat → Int32} {t w q m i c : Nat} (h1 : i ≤ q) (h3 : c < w) (h4 : w ≤ 12) : shf g t w q m (t * 1800 + i * 12 + c) = g (t * 1800 + i * 12 + c) := by
  unfold shf
  generalize t * 1800 = a
  rw [if_neg (by omega)]
set_option maxHeartbeats 4000000 in
theorem shf_out {g : Nat → Int32} {t w q m j : Nat} (h : m < 150) (h1 : j < t * 1800 ∨ t * 1800 + 1800 ≤ j) : shf g t w q m j = g j := by
  unfold shf
  generalize t * 1800 = a at *
  rw [if_neg (by omega)]
set_option maxHeartbeats 4000000 in
theorem flk_in {g : Nat → Int32} {t q w c : Nat} {src : Nat → Int32} (h : c < w) : fl g (t * 1800 + q * 12) w src (t * 1800 + q * 12 + c) = src c := fl_in h
set_option maxHeartbeats 4000000 in
theorem flk_out {g : Nat → Int32} {t q w i c : Nat} {src : Nat → Int32} (h : i ≠ q) (hc : c < w) (hw : w ≤ 12) : fl g (t * 1800 + q * 12) w src (t * 1800 + i * 12 + c) = g (t * 1800 + i * 12 + c) := by
  generalize t * 1800 = a
  exact fl_out (by omega)
/-- one more row of the part, in both -/
def kpS (T : kT) (S : kS) (n : Nat) (t : Nat) (mu : kM → Nat) (C1 R1 : kM) : Prop :=
  (∃ C2 R2, F_65 T (some t) C1 = some (1, C2) ∧ F_131 T (nI t) (nI (t + 1)) (tl R1 (t + 1) 1) = some (1, ak R2 (t + 1)) ∧ own t C1 C2 R1 R2 ∧ sC T S n C2 ∧ nd S t C2 R2 ∧ gp R2 (lMa 39) t = 0 ∧ mu R2 ≤ mu R1 + 1) ∨
  (∃ C2, F_65 T (some t) C1 = some (0, C2) ∧ F_131 T (nI t) (nI (t + 1)) (tl R1 (t + 1) 1) = some (0, tl R1 (t + 1) 1) ∧ own t C1 C2 R1 (tl R1 (t + 1) 1) ∧ sC T S n C2)
set_option maxHeartbeats 4000000 in
theorem kp_cnt {T : kT} {S : kS} {n t : Nat} {C1 R1 : kM} (hS : sOk S n) (ht : t < n) (h9 : kd S t = 9) (hC : sC T S n C1) (hR : sR S n R1) (hJ : nd S t C1 R1) (h0 : gp R1 (lMa 39) t = 0) : kpS T S n t (fun _ => 0) C1 R1 := by
  have hN := hS.1
  have hT := hC.1
  have c3 := hC.2.2.1 t ht
  have hx1 := (nk hS ht).2.2.2.2.2.2.2.2.2.2.2.2.2.2.2
  have hx : ix S t = 0 := by rw [hx1, if_neg (by omega)]
  refine Or.inl ⟨sp C1 (lTm t) 12 (gp C1 (lTm t) 12 + 1), sp (tl R1 (t + 1) 1) (lMa 26) t (gp R1 (lMa 26) t + 1), ?_, ?_, ⟨frC_sp (by omega), ?_, rfl, rfl⟩, sC_tm (by omega) hC, ?_, h0, Nat.zero_le _⟩
  · unfold F_65
    rw [kOpt_s, lv_tm (by omega), kGd_t, c3.1, h9]
    simp (disch := omega) only [pn_mulL, pn_addL, pn_addR, pn_ltL, pn_ltR, pn_leL, pn_leR, pn_eqL, pn_eqR, pn_subL, pn_z, pn_add, pn_mul, pn_nat, pn_inj, pn_lt, pn_le, pn_neg, kGx_nI, kGx_L, kGd_t, kBd_s, kOpt_s, kOpt_n, kLf_s, kAg_l, kAg_r, kAg_f, if_true, if_false, ite_true, ite_false, eq_self_iff_true, ↓reduceIte, Nat.reduceEqDiff, Nat.reduceLeDiff, Nat.reduceLT, Nat.reduceAdd, Nat.reduceMul, Nat.reduceSub, Int32.reduceLT, Int32.reduceLE, Nat.add_zero, Nat.zero_add, Nat.succ_ne_self, Nat.not_lt_zero, Nat.one_ne_zero, Nat.zero_ne_one, i01, i02, i03, i04, i10, i12, i13, i14, i20, i21, i23, i24, i30, i31, i32, i34, i40, i41, i42, i43, not_true_eq_false, not_false_eq_true]
  · exact rc_cnt (T := T) (M := tl R1 (t + 1) 1) hS (sR_fr (fr_tl (t := 0) (e := 0)) hR) ht h9
  · exact frR_trans (t1 := t) (e1 := t) (t2 := t) (e2 := t) fr_tl (frR_mp (by omega) (by omega) (by omega)) (by omega) (by omega) (by omega) (by omega)
  · have j3 := hJ.2.2.1 (by omega)
    have j6 := hJ.2.2.2.2.2.1 (by omega)
    refine ⟨fun z => absurd z (by omega), fun z => absurd z (by omega), fun _ => ?_, fun z => absurd z (by omega), fun z => absurd z (by omega), fun _ => ?_, ?_, fun z => absurd z (by omega), fun z => absurd z (by omega)⟩
    · simp (disch := omega) only [gp_ne, gpa_ne, gp_sp, gp_sa, upd_eq, upd_ne, gq_sp, gq_sa]; rw [j3]
    · simp (disch := omega) only [gp_ne, gpa_ne, gp_sp, gp_sa, upd_eq, upd_ne, gq_sp, gq_sa]; rw [j6]; rfl
    · exact hJ.2.2.2.2.2.2.1
set_option maxHeartbeats 4000000 in
theorem kp_sort {T : kT} {S : kS} {n t : Nat} {C1 R1 : kM} (hS : sOk S n) (ht : t < n) (h7 : kd S t = 7) (hC : sC T S n C1) (hR : sR S n R1) (hJ : nd S t C1 R1) (h0 : gp R1 (lMa 39) t = 0) (hrow : ∀ c, c < wd S (t + 1) → gp C1 (lRw (t + 1)) c = gp R1 (lMa 28) ((t + 1) * 12 + c)) : kpS T S n t (fun R => gn R 26 t) C1 R1 := by
  have hN := hS.1
  have hT := hC.1
  have hn := nk hS ht
  have b1 := hn.2.2.1 (by omega)
  have hs := hn.2.2.2.2.2.2.2.2.2.2.2.1 h7
  have hw1 := (nk hS b1.2.1).1.2.2.1
  have c3 := hC.2.2.1 t ht
  have hx1 := hn.2.2.2.2.2.2.2.2.2.2.2.2.2.2.2
  have hx : ix S t = 0 := by rw [hx1, if_neg (by omega)]
  obtain ⟨m, o, k1, k2, k3, k4⟩ := kr_kc (hJ.2.2.2.2.2.2.2.2 (by omega))
  have hm := k1.1
  have rc := rc_sort (T := T) (m := m) (M := tl R1 (t + 1) 1) hS (sR_fr (fr_tl (t := 0) (e := 0)) hR) ht h7 k2 hm
  have ec : F_65 T (some t) C1 = kBd (F_25 T t (lRw t) (nI (ch S t)) (nI (hw S t)) (sa C1 (lRw t) (fl (gp C1 (lRw t)) 0 (wd S (t + 1)) (fun c => gp C1 (lRw (t + 1)) c)))) (fun r9 M10 => kGd (r9 == 0 || r9 == 1) (some (r9, M10))) := by
    unfold F_65
    rw [kOpt_s, lv_tm (by omega), kGd_t, c3.1, h7, if_neg (by decide), if_pos (by decide), c3.2.2.2.2.2.2.1 (by omega), cl_copy0 hS hC b1.2.1 ht hw1, kBd_s]
    simp (disch := omega) only [gp_ne, gpa_ne, gp_sp, gp_sa, upd_eq, upd_ne, gq_sp, gq_sa, c3.2.1, c3.2.2.2.1]
  generalize hC2 : sa C1 (lRw t) (fl (gp C1 (lRw t)) 0 (wd S (t + 1)) (fun c => gp C1 (lRw (t + 1)) c)) = C2 at ec
  have sC2 : sC T S n C2 := by rw [← hC2]; exact sC_sa (by omega) hC
  have kc2 : kc S t m o C2 := by rw [← hC2]; exact kc_row k1
  have rw2 : ∀ c, c < wd S t → gp C2 (lRw t) c = gp C1 (lRw (t + 1)) c := by
    intro c hc
    rw [← hC2]
    simp (disch := omega) only [gp_ne, gpa_ne, gp_sp, gp_sa, upd_eq, upd_ne, gq_sp, gq_sa]
    exact fl0_in (by omega)
  have cl2 : gp C2 (lKc t) = gp C1 (lKc t) := by rw [← hC2]; simp (disch := omega) only [gp_ne, gpa_ne, gp_sp, gp_sa, upd_eq, upd_ne, gq_sp, gq_sa]
  have tm2 : gp C2 (lTm t) = gp C1 (lTm t) := by rw [← hC2]; simp (disch := omega) only [gp_ne, gpa_ne, gp_sp, gp_sa, upd_eq, upd_ne, gq_sp, gq_sa]
  have ow1 : frC t t C1 C2 := by rw [← hC2]; exact frC_sa (by omega)
  have lru : gp C2 lRu = gp C1 lRu := by rw [← hC2]; simp (disch := omega) only [gp_ne, gpa_ne, gp_sp, gp_sa, upd_eq, upd_ne, gq_sp, gq_sa]
  rw [cl_sorted hS sC2 ht h7 kc2] at ec
  by_cases qm : m < 150
  · rw [if_pos qm, kBd_s] at ec
    rw [if_pos qm] at rc
    have sq : csq S C2 t m o = stq S (tl R1 (t + 1) 1) t m := by
      unfold csq stq
      refine ips_congr m (fun k hk => ?_)
      have z1 := k4 k hk (ch S t) (by omega)
      have z2 := hrow (ch S t) (by omega)
      rw [cl2, rw2 _ (by omega), z1, z2]
      rfl
    have hq : stq S (tl R1 (t + 1) 1) t m ≤ m := ips_le m
    rw [sq] at ec
    refine Or.inl ⟨_, sp (lyM S (sa (tl R1 (t + 1) 1) (lMa 27) (shf (gp (tl R1 (t + 1) 1) (lMa 27)) t (wd S (t + 1)) (stq S (tl R1 (t + 1) 1) t m) m)) t (stq S (tl R1 (t + 1) 1) t m)) (lMa 26) t (nI (m + 1)), ec, rc, ?_⟩
    generalize stq S (tl R1 (t + 1) 1) t m = q at *
    refine ⟨⟨?_, ?_, ?_, rfl⟩, ?_, ?_, h0, ?_⟩
    · refine frC_trans (t1 := t) (e1 := t) (t2 := t) (e2 := t) ow1 ?_ (by omega) (by omega) (by omega) (by omega)
      unfold csM adM
      exact frC_trans (t1 := t) (e1 := t) (t2 := t) (e2 := t) (frC_trans (t := t) (e := t) (t1 := t) (e1 := t) (t2 := t) (e2 := t) (frC_trans (t := t) (e := t) (t1 := t) (e1 := t) (t2 := t) (e2 := t) (frC_sa (by omega)) (frC_sp (by omega)) (by omega) (by omega) (by omega) (by omega)) (frC_sp (by omega)) (by omega) (by omega) (by omega) (by omega)) (frC_sa (by omega)) (by omega) (by omega) (by omega) (by omega)
    · unfold lyM
      refine frR_trans (t1 := t) (e1 := t) (t2 := t) (e2 := t) ?_ (frR_mp (by omega) (by omega) (by omega)) (by omega) (by omega) (by omega) (by omega)
      refine frR_trans (t1 := t) (e1 := t) (t2 := t) (e2 := t) ?_ (frR_mk (fun i hi => fl_out (fl_k (by omega) hw1 hi))) (by omega) (by omega) (by omega) (by omega)
      exact frR_trans (t1 := t) (e1 := t) (t2 := t) (e2 := t) fr_tl (frR_mk (fun i hi => shf_out qm hi)) (by omega) (by omega) (by omega) (by omega)
    · rw [← lru]; unfold csM adM; simp (disch := omega) only [gp_ne, gpa_ne, gp_sp, gp_sa, upd_eq, upd_ne, gq_sp, gq_sa]
    · exact sC_sa (by omega) (sC_sp (by omega) (sC_sp (by omega) (sC_sa (by omega) sC2)))
    · obtain ⟨p, m', y1, y2, y3, y4, y5, y6⟩ := hJ.2.2.2.2.2.2.2.1 (by omega)
      have p0 := y6 h0
      have j6 := hJ.2.2.2.2.2.1 (by omega)
      refine ⟨fun z => absurd z (by omega), fun z => absurd z (by omega), fun z => absurd z (by omega), fun z => absurd z (by omega), fun z => absurd z (by omega), fun _ => ?_, ?_, fun _ => ⟨0, m + 1, by omega, by omega, ?_, ?_, ?_, fun _ => rfl⟩, fun _ => ?_⟩
      · unfold csM adM lyM
        simp (disch := omega) only [gp_ne, gpa_ne, gp_sp, gp_sa, upd_eq, upd_ne, gq_sp, gq_sa]
        rw [tm2, j6]; rfl
      · exact hJ.2.2.2.2.2.2.1
      · simp (disch := omega) only [gp_ne, gpa_ne, gp_sp, gp_sa, upd_eq, upd_ne, gq_sp, gq_sa]
      · unfold csM adM
        simp (disch := omega) only [gp_ne, gpa_ne, gp_sp, gp_sa, upd_eq, upd_ne, gq_sp, gq_sa]
        rw [tm2, y4, p0]
      · unfold lyM
        simp (disch := omega) only [gp_ne, gpa_ne, gp_sp, gp_sa, upd_eq, upd_ne, gq_sp, gq_sa]
        rw [← p0]; exact y5
      · refine kc_kr (kc_cs (n := n) kc2 qm hq) ?_ (fun z => absurd z (by omega)) (fun i hi c hc => ?_)
        · simp (disch := omega) only [gp_ne, gpa_ne, gp_sp, gp_sa, upd_eq, upd_ne, gq_sp, gq_sa]
        · unfold csM adM lyM
          simp (disch := omega) only [gp_ne, gpa_ne, gp_sp, gp_sa, upd_eq, upd_ne, gq_sp, gq_sa]
          by_cases qi : i = q
          · rw [if_pos qi, qi, fl_in (by omega), flk_in (by omega), rw2 c hc]
            exact hrow c (by omega)
          · rw [if_neg qi, flk_out qi (by omega) hw1]
            by_cases qj : q < i
            · have oi := k1.2.2.2 (i - 1) (by omega)
              rw [if_pos qj, fl_out (by omega), shf_gt qj (by omega) (by omega) hw1, cl2]
              exact k4 (i - 1) (by omega) c hc
            · have oi := k1.2.2.2 i (by omega)
              rw [if_neg qj, fl_out (by omega), shf_lt (by omega) (by omega) hw1, cl2]
              exact k4 i (by omega) c hc
    · show gn _ 26 t ≤ gn R1 26 t + 1
      unfold gn
      rw [k2, pn_nat (by omega)]
      simp (disch := omega) only [gp_ne, gpa_ne, gp_sp, gp_sa, upd_eq, upd_ne, gq_sp, gq_sa]
      rw [pn_nat (by omega)]
      omega
  · rw [if_neg qm, kBd_s] at ec
    rw [if_neg qm] at rc
    exact Or.inr ⟨C2, ec, rc, ⟨ow1, fr_tl, lru, rfl⟩, sC2⟩
set_option maxHeartbeats 4000000 in
theorem cl_comb {T : kT} {x d : Int32} {h : Nat} {C : kM} (hh : h ≤ 3) : F_67 T x d (nI h) C = some (cb h x d, C) := by
  unfold F_67 cb
  simp (disch := omega) only [pn_mulL, pn_addL, pn_addR, pn_ltL, pn_ltR, pn_leL, pn_leR, pn_eqL, pn_eqR, pn_subL, pn_z, pn_add, pn_mul, pn_nat, pn_inj, pn_lt, pn_le, pn_neg, kGx_nI, kGx_L]
  by_cases c0 : h = 0
  · simp only [if_pos c0]
  simp only [if_neg c0]
  by_cases c1 : h = 1
  · simp only [if_pos c1]
  simp only [if_neg c1]
  by_cases c2 : h = 2
  · simp only [if_pos c2]
  simp only [if_neg c2]
