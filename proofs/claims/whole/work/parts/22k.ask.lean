set_option maxHeartbeats 4000000 in
theorem ix_0 {S : kS} {n t : Nat} (hS : sOk S n) (ht : t < n) (h : kd S t ≠ 1) : ix S t = 0 := by
  have hx := (nk hS ht).2.2.2.2.2.2.2.2.2.2.2.2.2.2.2
  rw [if_neg (fun z => h z.1)] at hx
  exact hx
set_option maxHeartbeats 4000000 in
theorem e49_7 {T : kT} {E t d : Nat} {C : kM} (hT : t < T.2) (hd : d < 10) (h : gp C (lTm t) 0 = nI 7) : F_49r T (E + 1) (some t) (nI d) C = F_63 T (F_49r T E) (some t) (nI d) C := by
  rw [F_49r]
  unfold F_49
  rw [kOpt_s, h, if_pos (by simp (disch := omega) only [pn_mulL, pn_addL, pn_addR, pn_ltL, pn_ltR, pn_leL, pn_leR, pn_eqL, pn_eqR, pn_subL, pn_z, pn_add, pn_mul, pn_nat, pn_inj, pn_lt, pn_le, pn_neg, kGx_nI, kGx_L]; omega)]
  simp (disch := omega) only [pn_mulL, pn_addL, pn_addR, pn_ltL, pn_ltR, pn_leL, pn_leR, pn_eqL, pn_eqR, pn_subL, pn_z, pn_add, pn_mul, pn_nat, pn_inj, pn_lt, pn_le, pn_neg, kGx_nI, kGx_L, kGd_t, kBd_s, kOpt_s, kOpt_n, kLf_s, kAg_l, kAg_r, kAg_f, if_true, if_false, ite_true, ite_false, eq_self_iff_true, ↓reduceIte, Nat.reduceEqDiff, Nat.reduceLeDiff, Nat.reduceLT, Nat.reduceAdd, Nat.reduceMul, Nat.reduceSub, Int32.reduceLT, Int32.reduceLE, Nat.add_zero, Nat.zero_add, Nat.succ_ne_self, Nat.not_lt_zero, Nat.one_ne_zero, Nat.zero_ne_one, i01, i02, i03, i04, i10, i12, i13, i14, i20, i21, i23, i24, i30, i31, i32, i34, i40, i41, i42, i43, not_true_eq_false, not_false_eq_true, lv_tm]
  rw [kBd_id]
set_option maxHeartbeats 4000000 in
theorem e49_10 {T : kT} {E t d : Nat} {C : kM} (hT : t < T.2) (hd : d < 10) (h : gp C (lTm t) 0 = nI 10) : F_49r T (E + 1) (some t) (nI d) C = F_63 T (F_49r T E) (some t) (nI d) C := by
  rw [F_49r]
  unfold F_49
  rw [kOpt_s, h, if_pos (by simp (disch := omega) only [pn_mulL, pn_addL, pn_addR, pn_ltL, pn_ltR, pn_leL, pn_leR, pn_eqL, pn_eqR, pn_subL, pn_z, pn_add, pn_mul, pn_nat, pn_inj, pn_lt, pn_le, pn_neg, kGx_nI, kGx_L]; omega)]
  simp (disch := omega) only [pn_mulL, pn_addL, pn_addR, pn_ltL, pn_ltR, pn_leL, pn_leR, pn_eqL, pn_eqR, pn_subL, pn_z, pn_add, pn_mul, pn_nat, pn_inj, pn_lt, pn_le, pn_neg, kGx_nI, kGx_L, kGd_t, kBd_s, kOpt_s, kOpt_n, kLf_s, kAg_l, kAg_r, kAg_f, if_true, if_false, ite_true, ite_false, eq_self_iff_true, ↓reduceIte, Nat.reduceEqDiff, Nat.reduceLeDiff, Nat.reduceLT, Nat.reduceAdd, Nat.reduceMul, Nat.reduceSub, Int32.reduceLT, Int32.reduceLE, Nat.add_zero, Nat.zero_add, Nat.succ_ne_self, Nat.not_lt_zero, Nat.one_ne_zero, Nat.zero_ne_one, i01, i02, i03, i04, i10, i12, i13, i14, i20, i21, i23, i24, i30, i31, i32, i34, i40, i41, i42, i43, not_true_eq_false, not_false_eq_true, lv_tm]
  rw [kBd_id]
set_option maxHeartbeats 4000000 in
theorem ask_gth {T : kT} {S : kS} {n E e t d : Nat} {fI : Int32} (hS : sOk S n) (ht : t < n) (hd : d < 10) (h1 : kd S t = 7 ∨ kd S t = 10) (ih : AskOk T S n fI E e (t + 1) (d + 1)) : AskOk T S n fI (E + 1) (e + 1) t d := by
  intro f C R hC hR hL hF
  have hN := hS.1
  have hn := nk hS ht
  have k0 : kd S t ≠ 0 := by rcases h1 with h | h <;> rw [h] <;> decide
  have k1 : kd S t ≠ 1 := by rcases h1 with h | h <;> rw [h] <;> decide
  have k8 : kd S t ≠ 8 := by rcases h1 with h | h <;> rw [h] <;> decide
  have hx : ix S t = 0 := ix_0 hS ht k1
  have g0 : ¬ (kd S t = 0 ∨ ix S t = 1) := by rw [hx]; rcases h1 with h | h <;> rw [h] <;> decide
  have g9 : ¬ kd S t = 9 := by rcases h1 with h | h <;> rw [h] <;> decide
  have g3 : ¬ (kd S t = 3 ∨ kd S t = 4) := by rcases h1 with h | h <;> rw [h] <;> decide
  have g2 : ¬ kd S t = 2 := by rcases h1 with h | h <;> rw [h] <;> decide
  have g6 : ¬ kd S t = 6 := by rcases h1 with h | h <;> rw [h] <;> decide
  have g5 : ¬ kd S t = 5 := by rcases h1 with h | h <;> rw [h] <;> decide
  have nb : ¬ bin S t := by unfold bin; rcases h1 with h | h <;> rw [h] <;> decide
  have b1 := hn.2.2.1 k0
  have b2 := hn.2.2.2.1 k0 nb
  have he := hn.1.2.2.2.1
  have h79 : kd S t = 7 ∨ kd S t = 9 ∨ kd S t = 10 := by rcases h1 with h | h; exact Or.inl h; exact Or.inr (Or.inr h)
  have h69 : kd S t = 6 ∨ kd S t = 7 ∨ kd S t = 10 := Or.inr h1
  rw [lv] at hL
  have c3 := hC.2.2.1 t ht
  have hT := hC.1
  have j6 := hL.1.2.2.2.2.2.1 h79
  have e49 : F_49r T (E + 1) (some t) (nI d) C = F_63 T (F_49r T E) (some t) (nI d) C := by
    rcases h1 with h1 | h1
    · exact e49_7 (Nat.lt_of_lt_of_le ht hT) hd (by rw [c3.1, h1])
    · exact e49_10 (Nat.lt_of_lt_of_le ht hT) hd (by rw [c3.1, h1])
  unfold F_63 at e49
  rw [kOpt_s, lv_tm (by omega), kGd_t, j6] at e49
  have be0 : be S (e + 1) t = be S e (t + 1) := by rw [be, if_neg g0, if_neg g9, if_neg g3, if_neg g5]
  have pe : ∀ R, pA S R (e + 1) t = if gp R (lMa 39) t = 0 then gn R 26 t + pA S R e (t + 1) else gn R 26 t - gn R 38 t := by
    intro R
    rw [pA, if_neg g0, if_neg g9, if_neg g3, if_neg g5, if_pos h1]
  rcases hL.1.2.2.2.2.2.2.1 with l0 | l0
  · rw [if_pos l0] at e49
    have hp : pas S R t := ⟨k0, hx, fun z => absurd z k8, fun _ _ _ _ => l0⟩
    have lp0 := lp_pas (T := T) (fI := fI) hS hR ht hp
    obtain ⟨a, C1, R1, f1, e1, fc, sc1, fr, ff, fu1, tk, post⟩ := gather hS ht h79 ih f C R hC hR (hL.2.2.1 h79 l0) hL.1 l0 hF
    rw [e1, kBd_s] at e49
    have sR1 := sR_fr fr hR
    rcases post with ⟨rfl, l1, nd1, m1⟩ | ⟨rfl, s, l1, su1, lv1, nd1⟩ | ⟨rfl, l1⟩
    · rw [if_pos (show nI 0 = 0 from rfl)] at e49
      obtain ⟨p', m', y1, y2, y3, y4, y5, y6⟩ := nd1.1.2.2.2.2.2.2.2.1 h1
      have p0 := y6 nd1.2
      subst p0
      have re := re_gath (T := T) (a := t + 1) (m := m') (M := tl R1 (t + 1) 0) hS (sR_fr (fr_tl (t := 0) (e := 0)) sR1) ht h1 y5 y3 y2
      have lpf : ∀ {M' : kM}, F_129 T (nI t) (nI (t + 1)) (tl R1 (t + 1) 0) = some ((), M') → Lp T fI (tl R1 (t + 1) 0) = Lp T fI M' := fun h => lp_tl0 (T := T) (f := fI) (M := R1) hS sR1 (by omega) b1.2.1 (by omega) (by rw [b1.2.2.1]; exact h)
      have ndx : nd S t (sp C1 (lTm t) 15 1) (sp (tl R1 (t + 1) 0) (lMa 39) t 1) := by
        have j9 := nd1.1.2.2.2.2.2.2.2.2 h69
        have g89 : ¬ (kd S t = 8 ∨ kd S t = 9) := fun z => z.elim k8 g9
        have gx : ¬ ix S t = 1 := by rw [hx]; decide
        refine ⟨fun z => absurd z k0, fun z => absurd z gx, fun z => absurd z g89, fun z => absurd z g3, fun z => absurd z g5, fun _ => ?_, ?_, fun _ => ⟨0, m', by omega, y2, y3, ?_, y5, fun _ => rfl⟩, fun _ => ?_⟩
        · simp (disch := omega) only [gp_ne, gpa_ne, gp_sp, gp_sa, upd_eq, upd_ne, gq_sp, gq_sa]
        · simp (disch := omega) only [gp_ne, gpa_ne, gp_sp, gp_sa, upd_eq, upd_ne, gq_sp, gq_sa]; exact Or.inr rfl
        · simp (disch := omega) only [gp_ne, gpa_ne, gp_sp, gp_sa, upd_eq, upd_ne, gq_sp, gq_sa]; exact y4
        · unfold kr at *
          simp (disch := omega) only [gp_ne, gpa_ne, gp_sp, gp_sa, upd_eq, upd_ne, gq_sp, gq_sa]
          exact j9
      have fcx : frC t t C1 (sp C1 (lTm t) 15 1) := frC_sp (by omega)
      have frx : frR t t R1 (sp (tl R1 (t + 1) 0) (lMa 39) t 1) := frR_trans (t1 := t) (e1 := t) (t2 := t) (e2 := t) fr_tl (frR_mp (by omega) (by omega) (by omega)) (by omega) (by omega) (by omega) (by omega)
      obtain ⟨p, m, z1, z2, z3, z4, z5, z6⟩ := gth (e := e) (aa := F_49r T E) hS ht h1 (sC_tm (by omega) sc1) ndx (by simp (disch := omega) only [gp_ne, gpa_ne, gp_sp, gp_sa, upd_eq, upd_ne, gq_sp, gq_sa])
      have mm : m' = m := by
        have z : nI m' = nI m := by rw [← y3, ← z3]; simp (disch := omega) only [gp_ne, gpa_ne, gp_sp, gp_sa, upd_eq, upd_ne, gq_sp, gq_sa]; rfl
        rwa [pn_inj (by omega) (by omega)] at z
      have pp : p = 0 := by
        have z : nI p = nI 0 := by rw [← y5, ← z4]; simp (disch := omega) only [gp_ne, gpa_ne, gp_sp, gp_sa, upd_eq, upd_ne, gq_sp, gq_sa]; rfl
        rwa [pn_inj (by omega) (by omega)] at z
      subst mm pp
      by_cases q : 0 < m'
      · rw [if_pos q] at re
        have lp := lpf re
        obtain ⟨C2, R2, g1, g2, g3, g4, g5, g6, g7⟩ := z5 q
        rw [g2] at lp
        rw [g1] at e49
        refine ⟨1, C2, R2, f1, e49, ?_, g4, ?_, ff, fu_own g3 fu1, by rw [g3.2.2.1]; exact tk, Or.inl ⟨rfl, by rw [lp0, l1, lp], g5, g6, ?_⟩⟩
        · exact frC_trans (frC_trans (t := t) (e := en S t) fc fcx (by omega) (by omega) (by omega) (by omega)) g3.1 (by omega) (by omega) (by omega) (by omega)
        · exact frR_trans (frR_trans (t := t) (e := en S t) fr frx (by omega) (by omega) (by omega) (by omega)) g3.2.1 (by omega) (by omega) (by omega) (by omega)
        · have mu1 : muG S t R1 = m' := by unfold muG gn; rw [if_neg g9, y3, pn_nat (by omega)]
          have mu0 : muG S t R = gn R 26 t := if_neg g9
          rw [mu1, mu0] at m1
          rw [be0, pe R, if_pos l0]
          omega
      · rw [if_neg q] at re
        have lp := lpf re
        rw [z6 q] at e49
        refine ⟨0, _, sp (sp (tl R1 (t + 1) 0) (lMa 39) t 1) (lMa 38) t (nI (0 + 1)), f1, e49, ?_, sC_tm (by omega) sc1, ?_, ff, fu1, by rw [← tk]; simp (disch := omega) only [gp_ne, gpa_ne, gp_sp, gp_sa, upd_eq, upd_ne, gq_sp, gq_sa], Or.inr (Or.inl ⟨rfl, by rw [lp0, l1, lp]⟩)⟩
        · exact frC_trans fc fcx (by omega) (by omega) (by omega) (by omega)
        · exact frR_trans (frR_trans (t := t) (e := en S t) fr frx (by omega) (by omega) (by omega) (by omega)) (frR_mp (t := t) (e := t) (by omega) (by omega) (by omega)) (by omega) (by omega) (by omega) (by omega)
    · rw [if_neg (by decide)] at e49
      refine ⟨2, C1, R1, f1, e49, fc, sc1, fr, ff, fu1, tk, Or.inr (Or.inr (Or.inl ⟨rfl, s, by rw [lp0, l1], Or.inr (Or.inl ⟨⟨k0, hx, fun z => absurd z k8, fun _ _ _ _ => nd1.2⟩, su1⟩), ?_⟩))⟩
      rw [lv]
      exact ⟨nd1.1, fun z => by rcases z with z | z | z | z; exact absurd z.1 k1; exact absurd z g2; exact absurd z g6; exact absurd z k8, fun _ _ => lv1, fun z => absurd z g3, fun z => absurd z g5⟩
    · rw [if_neg (by decide)] at e49
      exact ⟨3, C1, R1, f1, e49, fc, sc1, fr, ff, fu1, tk, Or.inr (Or.inr (Or.inr ⟨rfl, by rw [lp0, l1]⟩))⟩
  · rw [if_neg (by rw [l0]; decide)] at e49
    obtain ⟨p, m, z1, z2, z3, z4, z5, z6⟩ := gth (R := ak R t) (e := e) (aa := F_49r T E) hS ht h1 hC (nd_cg rfl rfl rfl rfl rfl rfl rfl rfl hL.1) l0
    have rn := ra_next (T := T) (M := ak R t) hS (sR_fr (fr_ak (t := 0) (e := 0)) hR) ht h1 l0 z4 z3 z2 z1
    by_cases q : p < m
    · rw [if_pos q] at rn
      have lp := lp_ak (f := fI) rn
      rw [if_neg (by decide)] at lp
      obtain ⟨C2, R2, g1, g2, g3, g4, g5, g6, g7⟩ := z5 q
      rw [g2] at lp
      rw [g1] at e49
      refine ⟨1, C2, R2, f, e49, frC_trans (frC_refl t t C) g3.1 (by omega) (by omega) (by omega) (by omega), g4, frR_trans (t1 := t) (e1 := t) fr_ak g3.2.1 (by omega) (by omega) (by omega) (by omega), by omega, fu_own g3 hF, by rw [g3.2.2.1], Or.inl ⟨rfl, lp, g5, g6, ?_⟩⟩
      have gm : gn R 26 t = m := by unfold gn; rw [show gp R (lMa 26) t = nI m from z3, pn_nat (by omega)]
      have gq : gn R 38 t = p := by unfold gn; rw [show gp R (lMa 38) t = nI p from z4, pn_nat (by omega)]
      rw [pe R, if_neg (by rw [l0]; decide), gm, gq]
      omega
    · rw [if_neg q] at rn
      have lp := lp_ak (f := fI) rn
      rw [if_neg (by decide)] at lp
      rw [z6 q] at e49
      exact ⟨0, C, sp (ak R t) (lMa 38) t (nI (p + 1)), f, e49, frC_refl _ _ _, hC, frR_trans (t1 := t) (e1 := t) fr_ak (frR_mp (t := t) (e := t) (by omega) (by omega) (by omega)) (by omega) (by omega) (by omega) (by omega), by omega, hF, rfl, Or.inr (Or.inl ⟨rfl, lp⟩)⟩
