set_option maxHeartbeats 4000000 in
theorem iZ_none {T : kT} {M M' : kM} (h : ∀ l, l ≠ lD → gq M' l = gq M l) (h0 : gq M' lD 6 = none) (g : iZ T M) : iZ T M' := by
  unfold iZ at *
  rw [h lTe (by simp)]
  refine ⟨g.1, g.2.1, g.2.2.1, g.2.2.2.1, ?_⟩
  obtain ⟨q1, q2, q3, q4⟩ := g.2.2.2.2
  refine ⟨fun j hj => absurd (h0.symm.trans hj) (by simp), ?_, ?_, fun i hi => ?_⟩
  · rw [h lAl (by simp)]; exact q2
  · rw [h lTe (by simp)]; exact q3
  · rw [h (lTm i) (by simp)]; exact q4 i hi
set_option maxHeartbeats 4000000 in
theorem gq_no (M : kM) : gq (sq M lD 6 none) lD 6 = none := by rw [gq_sq]; exact va_up_self _ _ _
set_option maxHeartbeats 4000000 in
theorem sqE {M : kM} : gp (sq M lD 6 none) = gp M := rfl
/-- a call that is refused, in both -/
abbrev okU (T : kT) (c : Option (Int32 × kM)) (r : kM → Option (Unit × kM)) : Prop := ∃ k M1 M2, c = some (k, M1) ∧ r M1 = some ((), M2) ∧ gp M2 lMo 0 = k ∧ iNv T M2
abbrev okI (T : kT) (c : Option (Int32 × kM)) (r : kM → Option (Int32 × kM)) : Prop := ∃ k M1 b M2, c = some (k, M1) ∧ r M1 = some (b, M2) ∧ gp M2 lMo 0 = k ∧ (k = 0 → go M2 0 = b.toInt64) ∧ iNv T M2
set_option maxHeartbeats 4000000 in
theorem noU {T : kT} {M : kM} {c : Option (Int32 × kM)} {r : kM → Option (Unit × kM)} {k : Int32} (h : iNv T M) (h1 : c = some (k, M)) (h2 : r M = some ((), sp M lMo 0 k)) : okU T c r :=
  ⟨k, M, sp M lMo 0 k, h1, h2, by simp (disch := omega) only [gp_ne, gpa_ne, gp_sp, gp_sa, upd_eq, upd_ne, gq_sp, gq_sa], iNv_mo h⟩
set_option maxHeartbeats 4000000 in
theorem noI {T : kT} {M : kM} {c : Option (Int32 × kM)} {r : kM → Option (Int32 × kM)} {k b : Int32} (h : iNv T M) (hk : k ≠ 0) (h1 : c = some (k, M)) (h2 : r M = some (b, sp M lMo 0 k)) : okI T c r :=
  ⟨k, M, b, sp M lMo 0 k, h1, h2, by simp (disch := omega) only [gp_ne, gpa_ne, gp_sp, gp_sa, upd_eq, upd_ne, gq_sp, gq_sa], fun z => absurd z hk, iNv_mo h⟩
set_option maxHeartbeats 4000000 in
theorem c_index {T : kT} {M : kM} {t c : Int32} (h : iNv T M) : okU T (F_144 T t c M) (F_101 T t c) := by
  have hA := h.1
  have hT := h.2.2.2.1
  have o1 := hA.1.2
  have r01 : ∀ s : Int32, gp (sp M lMo 0 s) lMo 0 = s := fun s => by simp (disch := omega) only [gp_ne, gpa_ne, gp_sp, gp_sa, upd_eq, upd_ne, gq_sp, gq_sa]
  rcases in_cases t T.1 (by omega) with ⟨j, hj, rfl⟩ | ho
  · obtain ⟨w, r, t1, t2, t3, t4, t5, t6, t7, t8, t9⟩ := hA.2.2.1 j hj
    rcases in_cases c w (by omega) with ⟨d, hd, rfl⟩ | hco
    · have ti := t9 d hd
      have hgo := hA.2.2.2.2.1
      have e1 : F_144 T (nI j) (nI d) M = kBd (if gp M (lTx j) d = 0 then (if gp M lTs 2 = 0 then some (.inr (), sp (sq M lD 6 none) (lTx j) d 1) else some (.inl 1, M)) else some (.inl 1, M)) (fun r1 M2 => kSm r1 (fun E => if E = 0 then (some (1, M2)) else (if E = 1 then (some (2, M2)) else (none))) (fun v => some (0, M2))) := by
        unfold F_144 F_2 F_2_50
        rw [by_in hA hT hj, kBd_s, kOpt_s, lv_tb hj, kGd_t, hasC_in hj t4 t2 hd, kBd_s, if_neg (by decide)]
        simp (disch := omega) only [pn_mulL, pn_addL, pn_addR, pn_ltL, pn_ltR, pn_leL, pn_leR, pn_eqL, pn_eqR, pn_subL, pn_z, pn_add, pn_mul, pn_nat, pn_inj, pn_lt, pn_le, pn_neg, kGx_nI, kGx_L]
      have e2 : ∀ X, gp X lMo = gp M lMo → gp X (lMa 2) = gp M (lMa 2) → gp X (lMa 3) = gp M (lMa 3) → F_101 T (nI j) (nI d) X = if gp M lMo 7 = 0 then (if gp M (lMa 3) (j * 6 + d) = 0 then some ((), sp (sp (sp X lMo 0 0) (lMa 3) (j * 6 + d) 1) lMo 15 0) else some ((), sp X lMo 0 2)) else some ((), sp X lMo 0 2) := by
        intro X x1 x2 x3
        have rx : ∀ s : Int32, gp (sp X lMo 0 s) lMo 0 = s := fun s => by simp (disch := omega) only [gp_ne, gpa_ne, gp_sp, gp_sa, upd_eq, upd_ne, gq_sp, gq_sa]
        unfold F_101 F_101_40
        rw [isC_in (by rw [x1]; exact o1) hT hj (by rw [x2]; exact t5) t2 hd, kBd_s, if_neg (by decide)]
        simp only [rx, if_pos (show (0 : Int32) ≤ 0 by decide), if_neg (show ¬ (2 : Int32) ≤ 0 by decide)]
        simp (disch := omega) only [pn_mulL, pn_addL, pn_addR, pn_ltL, pn_ltR, pn_leL, pn_leR, pn_eqL, pn_eqR, pn_subL, pn_z, pn_add, pn_mul, pn_nat, pn_inj, pn_lt, pn_le, pn_neg, kGx_nI, kGx_L]
        rw [x1, x3]
      by_cases q7 : gp M lMo 7 = 0
      · by_cases q3 : gp M (lMa 3) (j * 6 + d) = 0
        · rw [ti, if_pos q3, hgo.1, if_pos q7, kBd_s, pSm_r] at e1
          have e2' := e2 (sp (sq M lD 6 none) (lTx j) d 1) (by simp (disch := omega) only [gp_ne, gpa_ne, gp_sp, gp_sa, upd_eq, upd_ne, gq_sp, gq_sa]; rfl) (by simp (disch := omega) only [gp_ne, gpa_ne, gp_sp, gp_sa, upd_eq, upd_ne, gq_sp, gq_sa]; rfl) (by simp (disch := omega) only [gp_ne, gpa_ne, gp_sp, gp_sa, upd_eq, upd_ne, gq_sp, gq_sa]; rfl)
          rw [if_pos q7, if_pos q3] at e2'
          refine ⟨0, _, _, e1, e2', by simp (disch := omega) only [gp_ne, gpa_ne, gp_sp, gp_sa, upd_eq, upd_ne, gq_sp, gq_sa], ?_, ?_, Or.inl ⟨gq_no M, by simp (disch := omega) only [gp_ne, gpa_ne, gp_sp, gp_sa, upd_eq, upd_ne, gq_sp, gq_sa]⟩, iZ_none (fun l x => gq_sq_ne x) (gq_no M) h.2.2.2⟩
          · obtain ⟨a1, a2, a3, a4, a5, a6⟩ := hA
            unfold iA
            refine ⟨?_, a2, fun j' hj' => ?_, fun j' x y => ?_, ?_, ?_⟩
            · simp (disch := omega) only [gp_ne, gpa_ne, gp_sp, gp_sa, upd_eq, upd_ne, gq_sp, gq_sa, sqE]; exact a1
            · obtain ⟨w', r', z1, z2, z3, z4, z5, z6, z7, z8, z9⟩ := a3 j' hj'
              refine ⟨w', r', z1, z2, z3, ?_, ?_, ?_, ?_, ?_, fun c hc => ?_⟩
              · simp (disch := omega) only [gp_ne, gpa_ne, gp_sp, gp_sa, upd_eq, upd_ne, gq_sp, gq_sa, sqE]; exact z4
              · simp (disch := omega) only [gp_ne, gpa_ne, gp_sp, gp_sa, upd_eq, upd_ne, gq_sp, gq_sa, sqE]; exact z5
              · simp (disch := omega) only [gp_ne, gpa_ne, gp_sp, gp_sa, upd_eq, upd_ne, gq_sp, gq_sa, sqE]; exact z6
              · simp (disch := omega) only [gp_ne, gpa_ne, gp_sp, gp_sa, upd_eq, upd_ne, gq_sp, gq_sa, sqE]; exact z7
              · simp (disch := omega) only [gp_ne, gpa_ne, gp_sp, gp_sa, upd_eq, upd_ne, gq_sp, gq_sa, sqE]; exact z8
              · by_cases qj : j' = j
                · subst qj
                  simp (disch := omega) only [gp_ne, gpa_ne, gp_sp, gp_sa, upd_eq, upd_ne, gq_sp, gq_sa, sqE]
                  by_cases qc : c = d
                  · rw [qc, upd_eq, upd_eq]
                  · rw [upd_ne qc, upd_ne (by omega)]; exact z9 c hc
                · simp (disch := omega) only [gp_ne, gpa_ne, gp_sp, gp_sa, upd_eq, upd_ne, gq_sp, gq_sa, sqE]
                  exact z9 c hc
            · have z := a4 j' x y
              simp (disch := omega) only [gp_ne, gpa_ne, gp_sp, gp_sa, upd_eq, upd_ne, gq_sp, gq_sa, sqE]
              refine ⟨z.1, fun c hc => ?_⟩
              exact z.2 c hc
            · simp (disch := omega) only [gp_ne, gpa_ne, gp_sp, gp_sa, upd_eq, upd_ne, gq_sp, gq_sa, sqE]; exact a5
            · intro g7
              have g7' : gp M lMo 7 = 1 := by rw [← g7]; simp (disch := omega) only [gp_ne, gpa_ne, gp_sp, gp_sa, upd_eq, upd_ne, gq_sp, gq_sa, sqE]
              exact absurd (q7.symm.trans g7') (by decide)
          · have hB := h.2.1
            unfold iB at *
            simp (disch := omega) only [gp_ne, gpa_ne, gp_sp, gp_sa, upd_eq, upd_ne, gq_sp, gq_sa, sqE]
            exact hB
        · rw [ti, if_neg q3, kBd_s, pSm_l] at e1
          have e2' := e2 M rfl rfl rfl
          rw [if_pos q7, if_neg q3] at e2'
          exact noU h e1 e2'
      · have e1' : F_144 T (nI j) (nI d) M = some (2, M) := by
          rw [e1]
          by_cases z : gp M (lTx j) d = 0
          · rw [if_pos z, hgo.1, if_neg q7]; rfl
          · rw [if_neg z]; rfl
        have e2' := e2 M rfl rfl rfl
        rw [if_neg q7] at e2'
        exact noU h e1' e2'
    · refine noU (k := 1) h ?_ ?_
      · unfold F_144 F_2 F_2_21
        rw [by_in hA hT hj, kBd_s, kOpt_s, lv_tb hj, kGd_t, hasC_out hj t4 t2 hco, kBd_s, if_pos rfl]; rfl
      · unfold F_101 F_101_40
        rw [isC_out o1 hT hj t5 t2 hco, kBd_s, if_pos rfl, r01, if_neg (by decide)]
  · refine noU (k := 1) h ?_ ?_
    · unfold F_144 F_2 F_2_21
      rw [by_out hA hT ho, kBd_s, kOpt_n]; rfl
    · unfold F_101 F_101_40
      rw [isC_outT o1 hT ho, kBd_s, if_pos rfl, r01, if_neg (by decide)]
set_option maxHeartbeats 4000000 in
theorem may {T : kT} {M : kM} {k n : Nat} (hk : k ≤ 120) (hn : n ≤ 40) (h3 : gp M lTs 2 = 1 → gp M lTs 3 = nI k) (hb : bl (gp M lTs 2)) : F_85 T (nI n) M = some (if gp M lTs 2 = 0 ∨ k + n ≤ 120 then 1 else 0, M) := by
  unfold F_85
  rcases hb with z | z
  · rw [if_pos z, if_pos (Or.inl z)]
  · rw [if_neg (by rw [z]; decide), h3 z, pn_add]
    by_cases q : k + n ≤ 120
    · rw [if_neg (by simp (disch := omega) only [pn_mulL, pn_addL, pn_addR, pn_ltL, pn_ltR, pn_leL, pn_leR, pn_eqL, pn_eqR, pn_subL, pn_z, pn_add, pn_mul, pn_nat, pn_inj, pn_lt, pn_le, pn_neg, kGx_nI, kGx_L]; omega), if_pos (Or.inr q)]
    · rw [if_pos (by simp (disch := omega) only [pn_mulL, pn_addL, pn_addR, pn_ltL, pn_ltR, pn_leL, pn_leR, pn_eqL, pn_eqR, pn_subL, pn_z, pn_add, pn_mul, pn_nat, pn_inj, pn_lt, pn_le, pn_neg, kGx_nI, kGx_L]; omega), if_neg (by rintro (y | y); exact absurd (z.symm.trans y) (by decide); exact q y)]
/-- the class counts in a transaction alone -/
def cnt (M : kM) (n : Nat) : kM := if gp M lTs 2 = 0 then M else sp M lTs 3 (gp M lTs 3 + nI n)
set_option maxHeartbeats 4000000 in
theorem cl_cnt {T : kT} {M : kM} {n : Nat} : F_86 T (nI n) M = some ((), cnt M n) := by
  unfold F_86 cnt
  by_cases q : gp M lTs 2 = 0
  · rw [if_pos q, if_pos q]
  · rw [if_neg q, if_neg q]
set_option maxHeartbeats 4000000 in
theorem cnt_ne {M : kM} {n : Nat} {a b : Nat} (h : a ≠ 1) : gp (cnt M n) (a, b) = gp M (a, b) := by
  unfold cnt
  by_cases q : gp M lTs 2 = 0
  · rw [if_pos q]
  · rw [if_neg q]; exact gp_ne (Or.inl h)
set_option maxHeartbeats 4000000 in
theorem cnt_ts {M : kM} {n k : Nat} (h : k ≠ 3) : gp (cnt M n) lTs k = gp M lTs k := by
  unfold cnt
  by_cases q : gp M lTs 2 = 0
  · rw [if_pos q]
  · rw [if_neg q, gp_sp, upd_ne h]
set_option maxHeartbeats 4000000 in
theorem cnt_3 {M : kM} {n : Nat} (q : ¬ gp M lTs 2 = 0) : gp (cnt M n) lTs 3 = gp M lTs 3 + nI n := by
  unfold cnt
  rw [if_neg q, gp_sp, upd_eq]
set_option maxHeartbeats 4000000 in
theorem cnt_q {M : kM} {n : Nat} : gq (cnt M n) = gq M := by
  unfold cnt
  by_cases q : gp M lTs 2 = 0
  · rw [if_pos q]
  · rw [if_neg q]; rfl
set_option maxHeartbeats 4000000 in
theorem cnt_o {M : kM} {n : Nat} : go (cnt M n) = go M := by
  unfold cnt
  by_cases q : gp M lTs 2 = 0
  · rw [if_pos q]
  · rw [if_neg q]; rfl
