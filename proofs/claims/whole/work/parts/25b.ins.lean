set_option maxHeartbeats 4000000 in
theorem mul_lt {k r w : Nat} (h : k < r) : k * w + w ≤ r * w := by
  have := Nat.mul_le_mul_right w (show k + 1 ≤ r from h)
  rwa [Nat.add_mul, Nat.one_mul] at this
set_option maxHeartbeats 4000000 in
theorem lvHa {T : kT} : kLv T lHa = true := rfl
set_option maxHeartbeats 4000000 in
/-- what a changing call leaves: the reference's count and the cancelled query -/
theorem chg {T : kT} {M : kM} {k n : Nat} (h : iA T M) (hk : gp M lMo 7 = 1 → gp M lTs 3 = nI k) (hk1 : gp M lMo 7 = 1 → gp M lMo 8 = nI k) (h1 : gp M lMo 7 = 1 → k + n ≤ 120) {c8 : Int32} (h8 : c8 = gp M lMo 8 + nI n) : gp M lMo 7 = 1 → ∃ k', k' ≤ 120 ∧ gp (cnt M n) lTs 3 = nI k' ∧ c8 = nI k' := by
  intro g
  have h5 := h.2.2.2.2.1
  refine ⟨k + n, h1 g, ?_, ?_⟩
  · rw [cnt_3 (by rw [h5.1, g]; decide), hk g, pn_add]
  · rw [h8, hk1 g, pn_add]
set_option maxHeartbeats 4000000 in
theorem c_insert {T : kT} {M : kM} {t : Int32} (h : iNv T M) : okI T (F_146 T t M) (F_103 T t) := by
  have hA := h.1
  have hT := h.2.2.2.1
  have o1 := hA.1.2
  have h5 := hA.2.2.2.2.1
  rcases in_cases t T.1 (by omega) with ⟨j, hj, rfl⟩ | ho
  · obtain ⟨w, r, t1, t2, t3, t4, t5, t6, t7, t8, t9⟩ := hA.2.2.1 j hj
    -- how many the transaction has changed
    obtain ⟨k, hk, k1, k2⟩ : ∃ k, k ≤ 120 ∧ (gp M lMo 7 = 1 → gp M lTs 3 = nI k) ∧ (gp M lMo 7 = 1 → gp M lMo 8 = nI k) := by
      rcases h5.2 with z | z
      · exact ⟨0, by omega, fun y => absurd (z.symm.trans y) (by decide), fun y => absurd (z.symm.trans y) (by decide)⟩
      · obtain ⟨k, a, b, c⟩ := (hA.2.2.2.2.2 z).1
        exact ⟨k, a, fun _ => b, fun _ => c⟩
    have mc := may (T := T) (M := M) (k := k) (n := 1) hk (by omega) (by rw [h5.1]; exact k1) (by rw [h5.1]; exact h5.2)
    have ref : ∀ X, gp X = gp M → ∀ s : Int32, (s = 1 ∨ s = 2) → F_103_45 T (nI j) s X = some (0, sp X lMo 0 s) := by
      intro X hX s hs
      unfold F_103_45
      have : gp (sp X lMo 0 s) lMo 0 = s := by simp (disch := omega) only [gp_ne, gpa_ne, gp_sp, gp_sa, upd_eq, upd_ne, gq_sp, gq_sa]
      rw [this, if_neg (by rcases hs with rfl | rfl <;> decide)]
    by_cases ok : r < 40 ∧ (gp M lMo 7 = 0 ∨ k + 1 ≤ 120)
    · have mw : r * w + w ≤ 240 := by
        have := mul_lt (w := w) ok.1
        have : 40 * w ≤ 240 := by omega
        omega
      have e75 : ∀ M', gp M' (lTb j) 4 = nI r → gp M' (lTb j) 0 = nI w → F_75 T j lHa M' = some ((), sp (sa M' (lTc j) (fl (gp M' (lTc j)) (r * w) w (fun c => gp M' lHa c))) (lTb j) 4 (nI (r + 1))) := by
        intro M' x1 x2
        unfold F_75
        rw [lv_tb hj, kGd_t, x1, x2, if_neg (by simp (disch := omega) only [pn_mulL, pn_addL, pn_addR, pn_ltL, pn_ltR, pn_leL, pn_leR, pn_eqL, pn_eqR, pn_subL, pn_z, pn_add, pn_mul, pn_nat, pn_inj, pn_lt, pn_le, pn_neg, kGx_nI, kGx_L]; omega), lvHa, kGd_t, show kisI lHa = true from rfl, kGd_t, show klen lHa = 6 from rfl, if_neg (by simp (disch := omega) only [pn_mulL, pn_addL, pn_addR, pn_ltL, pn_ltR, pn_leL, pn_leR, pn_eqL, pn_eqR, pn_subL, pn_z, pn_add, pn_mul, pn_nat, pn_inj, pn_lt, pn_le, pn_neg, kGx_nI, kGx_L]; omega), pn_mul, show (0 : Int32) = nI 0 from rfl, kCk_t (by omega) (by omega) (by omega) (by omega), kGd_t, cpy_fl]
        simp (disch := omega) only [pn_mulL, pn_addL, pn_addR, pn_ltL, pn_ltR, pn_leL, pn_leR, pn_eqL, pn_eqR, pn_subL, pn_z, pn_add, pn_mul, pn_nat, pn_inj, pn_lt, pn_le, pn_neg, kGx_nI, kGx_L, gp_ne, gpa_ne, gp_sp, gp_sa, upd_eq, upd_ne, gq_sp, gq_sa, x1]
        simp only [Nat.zero_add]
      have c4 : gp (cnt (sq M lD 6 none) 1) (lTb j) 4 = nI r := by rw [cnt_ne (by omega), sqE]; exact t6
      have c0 : gp (cnt (sq M lD 6 none) 1) (lTb j) 0 = nI w := by rw [cnt_ne (by omega), sqE]; exact t4
      have e1 : F_146 T (nI j) M = some (0, so (sp (sa (cnt (sq M lD 6 none) 1) (lTc j) (fl (gp (cnt (sq M lD 6 none) 1) (lTc j)) (r * w) w (fun c => gp (cnt (sq M lD 6 none) 1) lHa c))) (lTb j) 4 (nI (r + 1))) 0 (nI (r + 1)).toInt64) := by
        have mc1 : F_85 T 1 M = some (1, M) := by
          rw [if_pos (by rw [h5.1]; exact ok.2)] at mc
          exact mc
        have cc1 : F_86 T 1 (sq M lD 6 none) = some ((), cnt (sq M lD 6 none) 1) := cl_cnt
        unfold F_146 F_4
        rw [by_in hA hT hj, kBd_s, kOpt_s, lv_tb hj, kGd_t, t6, if_neg (by simp (disch := omega) only [pn_mulL, pn_addL, pn_addR, pn_ltL, pn_ltR, pn_leL, pn_leR, pn_eqL, pn_eqR, pn_subL, pn_z, pn_add, pn_mul, pn_nat, pn_inj, pn_lt, pn_le, pn_neg, kGx_nI, kGx_L]; omega), mc1, kBd_s, if_neg (by decide), cc1, kBd_s, e75 _ c4 c0, kBd_s, kBd_s, pSm_r, kGx_L _ (by omega) (by omega)]
        simp (disch := omega) only [gp_ne, gpa_ne, gp_sp, gp_sa, upd_eq, upd_ne, gq_sp, gq_sa]
        rfl
      generalize hM1 : so (sp (sa (cnt (sq M lD 6 none) 1) (lTc j) (fl (gp (cnt (sq M lD 6 none) 1) (lTc j)) (r * w) w (fun c => gp (cnt (sq M lD 6 none) 1) lHa c))) (lTb j) 4 (nI (r + 1))) 0 (nI (r + 1)).toInt64 = M1 at e1
      have gR : ∀ b, gp M1 (21, b) = gp M (21, b) := fun b => by rw [← hM1, gp_so]; simp (disch := omega) only [gp_ne, gpa_ne, gp_sp, gp_sa, upd_eq, upd_ne, gq_sp, gq_sa]; rw [cnt_ne (by omega), sqE]
      have gO : gp M1 lMo = gp M lMo := by rw [← hM1, gp_so]; simp (disch := omega) only [gp_ne, gpa_ne, gp_sp, gp_sa, upd_eq, upd_ne, gq_sp, gq_sa]; rw [cnt_ne (by omega), sqE]
      have e2 : F_103 T (nI j) M1 = some (nI (r + 1), sp (sp (sp (sa (sp M1 lMo 0 0) (lMa 5) (fl (gp M (lMa 5)) ((j * 40 + r) * 6) 6 (fun c => gp M (lMa 6) c))) (lMa 4) j (nI (r + 1))) lMo 8 (gp M lMo 8 + 1)) lMo 15 0) := by
        unfold F_103
        rw [isT_in (by rw [gO]; exact o1) hT hj, kBd_s, if_neg (by decide)]
        simp (disch := omega) only [pn_mulL, pn_addL, pn_addR, pn_ltL, pn_ltR, pn_leL, pn_leR, pn_eqL, pn_eqR, pn_subL, pn_z, pn_add, pn_mul, pn_nat, pn_inj, pn_lt, pn_le, pn_neg, kGx_nI, kGx_L]
        rw [gR 4, t7, if_neg (by simp (disch := omega) only [pn_mulL, pn_addL, pn_addR, pn_ltL, pn_ltR, pn_leL, pn_leR, pn_eqL, pn_eqR, pn_subL, pn_z, pn_add, pn_mul, pn_nat, pn_inj, pn_lt, pn_le, pn_neg, kGx_nI, kGx_L]; omega), gO]
        have go2 : (if gp M lMo 7 = 0 then F_103_45 T (nI j) 0 M1 else if gp M lMo 8 = 120 then F_103_45 T (nI j) 2 M1 else F_103_45 T (nI j) 0 M1) = F_103_45 T (nI j) 0 M1 := by
          by_cases q : gp M lMo 7 = 0
          · rw [if_pos q]
          · have g1 : gp M lMo 7 = 1 := h5.2.resolve_left q
            rw [if_neg q, k2 g1, if_neg (by simp (disch := omega) only [pn_mulL, pn_addL, pn_addR, pn_ltL, pn_ltR, pn_leL, pn_leR, pn_eqL, pn_eqR, pn_subL, pn_z, pn_add, pn_mul, pn_nat, pn_inj, pn_lt, pn_le, pn_neg, kGx_nI, kGx_L]; have := ok.2.resolve_left q; omega)]
        rw [go2]
        unfold F_103_45
        rw [show gp (sp M1 lMo 0 0) lMo 0 = 0 by simp (disch := omega) only [gp_ne, gpa_ne, gp_sp, gp_sa, upd_eq, upd_ne, gq_sp, gq_sa], if_pos (by decide)]
        have gM5 : gp (sp M1 lMo 0 0) (lMa 5) = gp M (lMa 5) := by simp (disch := omega) only [gp_ne, gpa_ne, gp_sp, gp_sa, upd_eq, upd_ne, gq_sp, gq_sa]; exact gR 5
        rw [← gM5]
        refine fill (G := fun c X => F_103_59 T (nI j) (nI c) X) (K := fun X => some (nI (r + 1), sp (sp (sp X (lMa 4) j (nI (r + 1))) lMo 8 (gp M lMo 8 + 1)) lMo 15 0)) (M := sp M1 lMo 0 0) (l := lMa 5) (d := (j * 40 + r) * 6) (w := 6) ?_ ?_
        · intro f c hc hf
          show F_103_59 T (nI j) (nI c) _ = F_103_59 T (nI j) (nI (c + 1)) _
          rw [F_103_59_eq]
          unfold B_103_59 F_99
          rw [if_neg (by simp (disch := omega) only [pn_mulL, pn_addL, pn_addR, pn_ltL, pn_ltR, pn_leL, pn_leR, pn_eqL, pn_eqR, pn_subL, pn_z, pn_add, pn_mul, pn_nat, pn_inj, pn_lt, pn_le, pn_neg, kGx_nI, kGx_L]; omega)]
          simp (disch := omega) only [pn_mulL, pn_addL, pn_addR, pn_ltL, pn_ltR, pn_leL, pn_leR, pn_eqL, pn_eqR, pn_subL, pn_z, pn_add, pn_mul, pn_nat, pn_inj, pn_lt, pn_le, pn_neg, kGx_nI, kGx_L, gp_ne, gpa_ne, gp_sp, gp_sa, upd_eq, upd_ne, gq_sp, gq_sa, gR 4, gR 6, t7]
          simp (disch := omega) only [kGd_t, kBd_s, kOpt_s, kOpt_n, kLf_s, kAg_l, kAg_r, kAg_f, if_true, if_false, ite_true, ite_false, eq_self_iff_true, ↓reduceIte, Nat.reduceEqDiff, Nat.reduceLeDiff, Nat.reduceLT, Nat.reduceAdd, Nat.reduceMul, Nat.reduceSub, Int32.reduceLT, Int32.reduceLE, Nat.add_zero, Nat.zero_add, Nat.succ_ne_self, Nat.not_lt_zero, Nat.one_ne_zero, Nat.zero_ne_one, i01, i02, i03, i04, i10, i12, i13, i14, i20, i21, i23, i24, i30, i31, i32, i34, i40, i41, i42, i43, not_true_eq_false, not_false_eq_true, pn_mulL, pn_addL, pn_addR, pn_ltL, pn_ltR, pn_leL, pn_leR, pn_eqL, pn_eqR, pn_subL, pn_z, pn_add, pn_mul, pn_nat, pn_inj, pn_lt, pn_le, pn_neg, kGx_nI, kGx_L, gp_ne, gpa_ne, gp_sp, gp_sa, upd_eq, upd_ne, gq_sp, gq_sa, gR 6]
          unfold sp
          rw [sa_sa, gp_sa]
        · intro f
          show F_103_59 T (nI j) (nI 6) _ = _
          rw [F_103_59_eq]
          unfold B_103_59
          rw [if_pos (by decide)]
          simp (disch := omega) only [pn_mulL, pn_addL, pn_addR, pn_ltL, pn_ltR, pn_leL, pn_leR, pn_eqL, pn_eqR, pn_subL, pn_z, pn_add, pn_mul, pn_nat, pn_inj, pn_lt, pn_le, pn_neg, kGx_nI, kGx_L, gp_ne, gpa_ne, gp_sp, gp_sa, upd_eq, upd_ne, gq_sp, gq_sa, gR 4, t7, gO, kGd_t, kBd_s, kOpt_s, kOpt_n, kLf_s, kAg_l, kAg_r, kAg_f, if_true, if_false, ite_true, ite_false, eq_self_iff_true, ↓reduceIte, Nat.reduceEqDiff, Nat.reduceLeDiff, Nat.reduceLT, Nat.reduceAdd, Nat.reduceMul, Nat.reduceSub, Int32.reduceLT, Int32.reduceLE, Nat.add_zero, Nat.zero_add, Nat.succ_ne_self, Nat.not_lt_zero, Nat.one_ne_zero, Nat.zero_ne_one, i01, i02, i03, i04, i10, i12, i13, i14, i20, i21, i23, i24, i30, i31, i32, i34, i40, i41, i42, i43, not_true_eq_false, not_false_eq_true]
      refine ⟨0, M1, _, _, e1, e2, by simp (disch := omega) only [gp_ne, gpa_ne, gp_sp, gp_sa, upd_eq, upd_ne, gq_sp, gq_sa], fun _ => ?_, ?_, ?_, Or.inl ⟨?_, by simp (disch := omega) only [gp_ne, gpa_ne, gp_sp, gp_sa, upd_eq, upd_ne, gq_sp, gq_sa]⟩, iZ_none (M := M) (fun l x => ?_) ?_ h.2.2.2⟩
      · show go M1 0 = _; rw [← hM1, go_so]; exact if_pos rfl
      · obtain ⟨a1, a2, a3, a4, a5, a6⟩ := hA
        have gC : ∀ a b, a ≠ 1 → a ≠ 11 → a ≠ 13 → gp M1 (a, b) = gp M (a, b) := fun a b x y z => by rw [← hM1, gp_so]; simp (disch := omega) only [gp_ne, gpa_ne, gp_sp, gp_sa, upd_eq, upd_ne, gq_sp, gq_sa]; rw [cnt_ne x, sqE]
        have gT : ∀ k, k ≠ 3 → gp M1 lTs k = gp M lTs k := fun k x => by rw [← hM1, gp_so]; simp (disch := omega) only [gp_ne, gpa_ne, gp_sp, gp_sa, upd_eq, upd_ne, gq_sp, gq_sa]; rw [cnt_ts x, sqE]
        have gT3 : gp M1 lTs 3 = gp (cnt M 1) lTs 3 := by
          rw [← hM1, gp_so]; simp (disch := omega) only [gp_ne, gpa_ne, gp_sp, gp_sa, upd_eq, upd_ne, gq_sp, gq_sa]
          unfold cnt
          rw [sqE]
          by_cases q : gp M lTs 2 = 0
          · rw [if_pos q, if_pos q]; rfl
          · rw [if_neg q, if_neg q]; rfl
        have gB : ∀ j', j' ≠ j → ∀ a, a = 11 ∨ a = 13 → gp M1 (a, j') = gp M (a, j') := fun j' x a y => by rw [← hM1, gp_so]; simp (disch := omega) only [gp_ne, gpa_ne, gp_sp, gp_sa, upd_eq, upd_ne, gq_sp, gq_sa]; rw [cnt_ne (by omega), sqE]
        have gb4 : gp M1 (lTb j) = upd (gp M (lTb j)) 4 (nI (r + 1)) := by rw [← hM1, gp_so]; simp (disch := omega) only [gp_ne, gpa_ne, gp_sp, gp_sa, upd_eq, upd_ne, gq_sp, gq_sa]; rw [cnt_ne (by omega), sqE]
        have gbc : gp M1 (lTc j) = fl (gp M (lTc j)) (r * w) w (fun c => gp M lHa c) := by rw [← hM1, gp_so]; simp (disch := omega) only [gp_ne, gpa_ne, gp_sp, gp_sa, upd_eq, upd_ne, gq_sp, gq_sa]; rw [cnt_ne (by omega), cnt_ne (by omega), sqE]
        unfold iA
        simp (disch := omega) only [gp_ne, gpa_ne, gp_sp, gp_sa, upd_eq, upd_ne, gq_sp, gq_sa, gO, gT]
        refine ⟨a1, ?_, fun j' hj' => ?_, fun j' x y => ?_, a5, fun g => ⟨?_, fun j' hj' => ?_, fun j' x y => ?_⟩⟩
        · intro j' hj'
          have : gq M1 lAl = gq M lAl := by rw [← hM1, gq_so, gq_sp, gq_sa, cnt_q]; rfl
          rw [this]; exact a2 j' hj'
        · by_cases qj : j' = j
          · subst qj
            refine ⟨w, r + 1, t1, t2, by omega, ?_, ?_, ?_, ?_, ?_, ?_⟩
            · simp (disch := omega) only [gp_ne, gpa_ne, gp_sp, gp_sa, upd_eq, upd_ne, gq_sp, gq_sa, gb4]; exact t4
            · simp (disch := omega) only [gp_ne, gpa_ne, gp_sp, gp_sa, upd_eq, upd_ne, gq_sp, gq_sa, gR]; exact t5
            · simp (disch := omega) only [gp_ne, gpa_ne, gp_sp, gp_sa, upd_eq, upd_ne, gq_sp, gq_sa, gb4]
            · simp (disch := omega) only [gp_ne, gpa_ne, gp_sp, gp_sa, upd_eq, upd_ne, gq_sp, gq_sa]
            · intro k' c hk' hc
              simp (disch := omega) only [gp_ne, gpa_ne, gp_sp, gp_sa, upd_eq, upd_ne, gq_sp, gq_sa, gbc]
              by_cases qk : k' = r
              · rw [qk, fl_in hc, fl_in (by omega)]
                exact h.2.1.1 c (by omega)
              · have := mul_lt (w := w) (show k' < r by omega)
                rw [fl_out (by omega), fl_out (by omega)]
                exact t8 k' c (by omega) hc
            · intro c hc
              simp (disch := omega) only [gp_ne, gpa_ne, gp_sp, gp_sa, upd_eq, upd_ne, gq_sp, gq_sa, gR]
              rw [gC 12 _ (by omega) (by omega) (by omega)]
              exact t9 c hc
          · obtain ⟨w', r', z1, z2, z3, z4, z5, z6, z7, z8, z9⟩ := a3 j' hj'
            refine ⟨w', r', z1, z2, z3, ?_, ?_, ?_, ?_, fun k' c hk' hc => ?_, fun c hc => ?_⟩
            · simp (disch := omega) only [gp_ne, gpa_ne, gp_sp, gp_sa, upd_eq, upd_ne, gq_sp, gq_sa]; rw [gB j' qj 11 (Or.inl rfl)]; exact z4
            · simp (disch := omega) only [gp_ne, gpa_ne, gp_sp, gp_sa, upd_eq, upd_ne, gq_sp, gq_sa, gR]; exact z5
            · simp (disch := omega) only [gp_ne, gpa_ne, gp_sp, gp_sa, upd_eq, upd_ne, gq_sp, gq_sa]; rw [gB j' qj 11 (Or.inl rfl)]; exact z6
            · simp (disch := omega) only [gp_ne, gpa_ne, gp_sp, gp_sa, upd_eq, upd_ne, gq_sp, gq_sa, gR]; exact z7
            · simp (disch := omega) only [gp_ne, gpa_ne, gp_sp, gp_sa, upd_eq, upd_ne, gq_sp, gq_sa]
              rw [gB j' qj 13 (Or.inr rfl), fl_out (by omega)]; exact z8 k' c hk' hc
            · simp (disch := omega) only [gp_ne, gpa_ne, gp_sp, gp_sa, upd_eq, upd_ne, gq_sp, gq_sa, gR]
              rw [gC 12 _ (by omega) (by omega) (by omega)]
              exact z9 c hc
        · have z := a4 j' x y
          simp (disch := omega) only [gp_ne, gpa_ne, gp_sp, gp_sa, upd_eq, upd_ne, gq_sp, gq_sa, gR]
          exact z
        · have := chg (n := 1) ⟨a1, a2, a3, a4, a5, a6⟩ k1 k2 (fun g => by rcases ok.2 with y | y; exact absurd (y.symm.trans g) (by decide); exact y) (c8 := gp M lMo 8 + 1) rfl g
          rw [gT3]
          exact this
        · obtain ⟨w', r', z1, z2, z3, z4, z5, z6, z7⟩ := (a6 g).2.1 j' hj'
          by_cases qj : j' = j
          · subst qj
            refine ⟨w', r', ?_, z2, z3, z4, ?_, ?_, fun k' c hk' hc => ?_⟩
            · simp (disch := omega) only [gp_ne, gpa_ne, gp_sp, gp_sa, upd_eq, upd_ne, gq_sp, gq_sa, gb4]; exact z1
            · simp (disch := omega) only [gp_ne, gpa_ne, gp_sp, gp_sa, upd_eq, upd_ne, gq_sp, gq_sa, gb4]; exact z5
            · simp (disch := omega) only [gp_ne, gpa_ne, gp_sp, gp_sa, upd_eq, upd_ne, gq_sp, gq_sa, gR]; exact z6
            · simp (disch := omega) only [gp_ne, gpa_ne, gp_sp, gp_sa, upd_eq, upd_ne, gq_sp, gq_sa, gR]; rw [gC 14 _ (by omega) (by omega) (by omega)]; exact z7 k' c hk' hc
          · refine ⟨w', r', ?_, z2, z3, z4, ?_, ?_, fun k' c hk' hc => ?_⟩
            · simp (disch := omega) only [gp_ne, gpa_ne, gp_sp, gp_sa, upd_eq, upd_ne, gq_sp, gq_sa]; rw [gB j' qj 11 (Or.inl rfl)]; exact z1
            · simp (disch := omega) only [gp_ne, gpa_ne, gp_sp, gp_sa, upd_eq, upd_ne, gq_sp, gq_sa]; rw [gB j' qj 11 (Or.inl rfl)]; exact z5
            · simp (disch := omega) only [gp_ne, gpa_ne, gp_sp, gp_sa, upd_eq, upd_ne, gq_sp, gq_sa, gR]; exact z6
            · simp (disch := omega) only [gp_ne, gpa_ne, gp_sp, gp_sa, upd_eq, upd_ne, gq_sp, gq_sa, gR]; rw [gC 14 _ (by omega) (by omega) (by omega)]; exact z7 k' c hk' hc
        · simp (disch := omega) only [gp_ne, gpa_ne, gp_sp, gp_sa, upd_eq, upd_ne, gq_sp, gq_sa, gR]; exact (a6 g).2.2 j' x y
      · have hB := h.2.1
        have gC : ∀ a b, a ≠ 1 → a ≠ 11 → a ≠ 13 → gp M1 (a, b) = gp M (a, b) := fun a b x y z => by rw [← hM1, gp_so]; simp (disch := omega) only [gp_ne, gpa_ne, gp_sp, gp_sa, upd_eq, upd_ne, gq_sp, gq_sa]; rw [cnt_ne x, sqE]
        unfold iB at *
        simp (disch := omega) only [gp_ne, gpa_ne, gp_sp, gp_sa, upd_eq, upd_ne, gq_sp, gq_sa, gC]
        exact hB
      · show gq M1 lD 6 = none; rw [← hM1, gq_so, gq_sp, gq_sa, cnt_q]; exact gq_no M
      · show gq M1 l = gq M l; rw [← hM1, gq_so, gq_sp, gq_sa, cnt_q]; exact gq_sq_ne x
      · show gq M1 lD 6 = none; rw [← hM1, gq_so, gq_sp, gq_sa, cnt_q]; exact gq_no M
    · refine noI (k := 2) (b := 0) h (by decide) ?_ ?_
      · unfold F_146 F_4 F_4_43
        rw [by_in hA hT hj, kBd_s, kOpt_s, lv_tb hj, kGd_t, t6]
        by_cases q : r < 40
        · have nk : ¬ (gp M lTs 2 = 0 ∨ k + 1 ≤ 120) := fun z => ok ⟨q, by rw [← h5.1]; exact z⟩
          have mc0 : F_85 T 1 M = some (0, M) := by
            rw [if_neg nk] at mc
            exact mc
          rw [if_neg (by simp (disch := omega) only [pn_mulL, pn_addL, pn_addR, pn_ltL, pn_ltR, pn_leL, pn_leR, pn_eqL, pn_eqR, pn_subL, pn_z, pn_add, pn_mul, pn_nat, pn_inj, pn_lt, pn_le, pn_neg, kGx_nI, kGx_L]; omega), mc0, kBd_s, if_pos rfl]; rfl
        · rw [if_pos (by simp (disch := omega) only [pn_mulL, pn_addL, pn_addR, pn_ltL, pn_ltR, pn_leL, pn_leR, pn_eqL, pn_eqR, pn_subL, pn_z, pn_add, pn_mul, pn_nat, pn_inj, pn_lt, pn_le, pn_neg, kGx_nI, kGx_L]; omega)]; rfl
      · unfold F_103
        rw [isT_in o1 hT hj, kBd_s, if_neg (by decide)]
        simp (disch := omega) only [pn_mulL, pn_addL, pn_addR, pn_ltL, pn_ltR, pn_leL, pn_leR, pn_eqL, pn_eqR, pn_subL, pn_z, pn_add, pn_mul, pn_nat, pn_inj, pn_lt, pn_le, pn_neg, kGx_nI, kGx_L]
        rw [t7]
        by_cases q : r < 40
        · have nk : ¬ (gp M lMo 7 = 0 ∨ k + 1 ≤ 120) := fun z => ok ⟨q, z⟩
          have g7 : ¬ gp M lMo 7 = 0 := fun z => nk (Or.inl z)
          have g1 : gp M lMo 7 = 1 := h5.2.resolve_left g7
          have k12 : k = 120 := by have : ¬ k + 1 ≤ 120 := fun z => nk (Or.inr z); omega
          rw [if_neg (by simp (disch := omega) only [pn_mulL, pn_addL, pn_addR, pn_ltL, pn_ltR, pn_leL, pn_leR, pn_eqL, pn_eqR, pn_subL, pn_z, pn_add, pn_mul, pn_nat, pn_inj, pn_lt, pn_le, pn_neg, kGx_nI, kGx_L]; omega), if_neg g7, k2 g1, k12, if_pos (show nI 120 = 120 from rfl)]
          exact ref M rfl 2 (Or.inr rfl)
        · have : r = 40 := by omega
          rw [this, if_pos (show nI 40 = 40 from rfl)]
          exact ref M rfl 2 (Or.inr rfl)
  · refine noI (k := 1) (b := 0) h (by decide) ?_ ?_
    · unfold F_146 F_4
      rw [by_out hA hT ho, kBd_s, kOpt_n]; rfl
    · unfold F_103 F_103_45
      have : gp (sp M lMo 0 1) lMo 0 = 1 := by simp (disch := omega) only [gp_ne, gpa_ne, gp_sp, gp_sa, upd_eq, upd_ne, gq_sp, gq_sa]
      rw [isT_out o1 hT ho, kBd_s, if_pos rfl, this, if_neg (by decide)]
