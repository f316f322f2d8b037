def rsD (T : kT) (i : Nat) (X X' : kM) : Prop := X'.2 = X.2 ∧ (∀ l : kLb, l.1 ≠ 11 → l.1 ≠ 13 → gp X' l = gp X l) ∧ (∀ j, j < i → gp X' (lTb j) = gp X (lTb j) ∧ gp X' (lTc j) = gp X (lTc j)) ∧
  (∀ j, i ≤ j → j < T.1 → (∀ k, k ≠ 4 → gp X' (lTb j) k = gp X (lTb j) k) ∧ gp X' (lTb j) 4 = gp X (lTb j) 5 ∧ ∀ w r, gp X (lTb j) 0 = nI w → gp X (lTb j) 5 = nI r → w ≤ 6 → r ≤ 40 → ∀ x, x < r * w → gp X' (lTc j) x = gp X (lTv j) x)
def tb5 (T : kT) (X : kM) : Prop := tbs T X ∧ ∀ j, j < T.1 → ∃ w r, w ≤ 6 ∧ r ≤ 40 ∧ gp X (lTb j) 0 = nI w ∧ gp X (lTb j) 5 = nI r
set_option maxHeartbeats 4000000 in
theorem cl_rest {T : kT} : ∀ m i X, i + m = 6 → tb5 T X → ∃ X', F_89_2 T (nI i) X = some ((), X') ∧ rsD T i X X' := by
  intro m
  induction m with
  | zero =>
    intro i X e h
    refine ⟨X, ?_, rfl, fun _ _ _ => rfl, fun _ _ => ⟨rfl, rfl⟩, fun j a b => by have := h.1.1; omega⟩
    rw [F_89_2_eq]
    unfold B_89_2
    rw [if_pos (by rw [pn_leR _ (by omega) (by omega)]; omega), kAg_r]
  | succ m ih =>
    intro i X e h
    have h6 := h.1.1
    rw [F_89_2_eq]
    unfold B_89_2
    rw [if_neg (by rw [pn_leR _ (by omega) (by omega)]; omega)]
    by_cases q : i < T.1
    · obtain ⟨w, r, w6, r4, x0, x4⟩ := h.2 i q
      have rw40 : r * w ≤ 40 * 6 := Nat.mul_le_mul r4 w6
      have e81 : F_81 T i X = some ((), sp (sa X (lTc i) (fl (gp X (lTc i)) 0 (r * w) (fun c => gp X (lTv i) c))) (lTb i) 4 (nI r)) := by
        unfold F_81
        rw [lv_tb q, kGd_t, x0, x4, pn_mul, show (0 : Int32) = nI 0 from rfl, kCk_t (by omega) (by omega) (by omega) (by omega), kGd_t, cpy_fl, pn_nat (by omega), pn_nat (by omega)]
        simp only [Nat.zero_add]
        simp (disch := omega) only [gp_ne, gpa_ne, gp_sp, gp_sa, upd_eq, upd_ne, gq_sp, gq_sa, x4]
      rw [by_in2 h.1 q, kBd_s, kOpt_s, lv_tb q, kGd_t, e81, kBd_s, kAg_l, pn_addL]
      have tb' : tb5 T (sp (sa X (lTc i) (fl (gp X (lTc i)) 0 (r * w) (fun c => gp X (lTv i) c))) (lTb i) 4 (nI r)) := by
        refine ⟨⟨h6, ?_, h.1.2.2.1, fun j hj => ?_⟩, fun j hj => ?_⟩
        · simp (disch := omega) only [gp_ne, gpa_ne, gp_sp, gp_sa, upd_eq, upd_ne, gq_sp, gq_sa]; exact h.1.2.1
        · obtain ⟨w', r', a, b, c, d⟩ := h.1.2.2.2 j hj
          by_cases qj : j = i
          · subst qj
            exact ⟨w', r, a, r4, by simp (disch := omega) only [gp_ne, gpa_ne, gp_sp, gp_sa, upd_eq, upd_ne, gq_sp, gq_sa]; exact c, by simp (disch := omega) only [gp_ne, gpa_ne, gp_sp, gp_sa, upd_eq, upd_ne, gq_sp, gq_sa]⟩
          · exact ⟨w', r', a, b, by simp (disch := omega) only [gp_ne, gpa_ne, gp_sp, gp_sa, upd_eq, upd_ne, gq_sp, gq_sa]; exact c, by simp (disch := omega) only [gp_ne, gpa_ne, gp_sp, gp_sa, upd_eq, upd_ne, gq_sp, gq_sa]; exact d⟩
        · obtain ⟨w', r', a, b, c, d⟩ := h.2 j hj
          by_cases qj : j = i
          · subst qj
            exact ⟨w', r', a, b, by simp (disch := omega) only [gp_ne, gpa_ne, gp_sp, gp_sa, upd_eq, upd_ne, gq_sp, gq_sa]; exact c, by simp (disch := omega) only [gp_ne, gpa_ne, gp_sp, gp_sa, upd_eq, upd_ne, gq_sp, gq_sa]; exact d⟩
          · exact ⟨w', r', a, b, by simp (disch := omega) only [gp_ne, gpa_ne, gp_sp, gp_sa, upd_eq, upd_ne, gq_sp, gq_sa]; exact c, by simp (disch := omega) only [gp_ne, gpa_ne, gp_sp, gp_sa, upd_eq, upd_ne, gq_sp, gq_sa]; exact d⟩
      obtain ⟨X', e', s1, s2, s3, s4⟩ := ih (i + 1) _ (by omega) tb'
      refine ⟨X', e', s1, fun l a b => ?_, fun j hj => ?_, fun j a b => ?_⟩
      · rw [s2 l a b, gp_sp_ne (fun z => by rw [z] at a; exact a rfl), gp_sa_ne (fun z => by rw [z] at b; exact b rfl)]
      · have := s3 j (by omega)
        rw [this.1, this.2]
        constructor <;> simp (disch := omega) only [gp_ne, gpa_ne, gp_sp, gp_sa, upd_eq, upd_ne, gq_sp, gq_sa]
      · by_cases qj : j = i
        · subst qj
          have z := s3 j (by omega)
          rw [z.1, z.2]
          refine ⟨fun k hk => ?_, ?_, fun w' r' p1 p2 p3 p4 x hx => ?_⟩
          · simp (disch := omega) only [gp_ne, gpa_ne, gp_sp, gp_sa, upd_eq, upd_ne, gq_sp, gq_sa]
          · simp (disch := omega) only [gp_ne, gpa_ne, gp_sp, gp_sa, upd_eq, upd_ne, gq_sp, gq_sa]; exact x4.symm
          · have ew : w' = w := by have := p1.symm.trans x0; rwa [pn_inj (by omega) (by omega)] at this
            have er : r' = r := by have := p2.symm.trans x4; rwa [pn_inj (by omega) (by omega)] at this
            subst ew er
            simp (disch := omega) only [gp_ne, gpa_ne, gp_sp, gp_sa, upd_eq, upd_ne, gq_sp, gq_sa]
            exact fl0_in hx
        · obtain ⟨z1, z2, z3⟩ := s4 j (by omega) b
          refine ⟨fun k hk => ?_, ?_, fun w' r' p1 p2 p3 p4 x hx => ?_⟩
          · rw [z1 k hk]; simp (disch := omega) only [gp_ne, gpa_ne, gp_sp, gp_sa, upd_eq, upd_ne, gq_sp, gq_sa]
          · rw [z2]; simp (disch := omega) only [gp_ne, gpa_ne, gp_sp, gp_sa, upd_eq, upd_ne, gq_sp, gq_sa]
          · rw [z3 w' r' (by simp (disch := omega) only [gp_ne, gpa_ne, gp_sp, gp_sa, upd_eq, upd_ne, gq_sp, gq_sa]; exact p1) (by simp (disch := omega) only [gp_ne, gpa_ne, gp_sp, gp_sa, upd_eq, upd_ne, gq_sp, gq_sa]; exact p2) p3 p4 x hx]; simp (disch := omega) only [gp_ne, gpa_ne, gp_sp, gp_sa, upd_eq, upd_ne, gq_sp, gq_sa]
    · rw [by_out2 h.1 (by omega) (by omega), kBd_s, kOpt_n, kAg_l, pn_addL]
      obtain ⟨X', e', s1, s2, s3, s4⟩ := ih (i + 1) X (by omega) h
      exact ⟨X', e', s1, s2, fun j hj => s3 j (by omega), fun j a b => by omega⟩
set_option maxHeartbeats 4000000 in
theorem rf_back {T : kT} {X : kM} {a1 : Int32} : F_109_16 T a1 0 X = some (a1, sa (sa X (lMa 5) (fl (gp X (lMa 5)) 0 1440 (fun c => gp X (lMa 10) c))) (lMa 4) (fl (gp X (lMa 4)) 0 6 (fun c => gp X (lMa 9) c))) := by
  refine fill (G := fun c M => F_109_16 T a1 (nI c) M) (K := fun M => some (a1, sa M (lMa 4) (fl (gp X (lMa 4)) 0 6 (fun c => gp X (lMa 9) c)))) (M := X) (l := lMa 5) (d := 0) (w := 1440) (src := fun c => gp X (lMa 10) c) ?_ ?_
  · intro f c hc hf
    show F_109_16 T a1 (nI c) _ = F_109_16 T a1 (nI (c + 1)) _
    rw [F_109_16_eq]
    unfold B_109_16
    rw [if_neg (by rw [pn_leR _ (by omega) (by omega)]; omega), kGx_nI hc (by omega), kGx_nI hc (by omega), kAg_l, pn_nat (by omega), pn_addL]
    unfold sp
    rw [sa_sa, gp_sa, Nat.zero_add]
    simp (disch := omega) only [gp_ne, gpa_ne, gp_sp, gp_sa, upd_eq, upd_ne, gq_sp, gq_sa]
  · intro f
    show F_109_16 T a1 (nI 1440) _ = _
    rw [F_109_16_eq]
    unfold B_109_16
    rw [if_pos (by decide), kAg_f]
    have g9 : gp (sa X (lMa 5) f) (lMa 4) = gp X (lMa 4) := by simp (disch := omega) only [gp_ne, gpa_ne, gp_sp, gp_sa, upd_eq, upd_ne, gq_sp, gq_sa]
    rw [← g9]
    refine fill (G := fun c M => F_109_45 T a1 (nI c) M) (K := fun M => some (a1, M)) (M := sa X (lMa 5) f) (l := lMa 4) (d := 0) (w := 6) (src := fun c => gp X (lMa 9) c) ?_ ?_
    · intro f c hc hf
      show F_109_45 T a1 (nI c) _ = F_109_45 T a1 (nI (c + 1)) _
      rw [F_109_45_eq]
      unfold B_109_45
      rw [if_neg (by rw [pn_leR _ (by omega) (by omega)]; omega), kGx_nI hc (by omega), kGx_nI hc (by omega), kAg_l, pn_nat (by omega), pn_addL]
      unfold sp
      rw [sa_sa, gp_sa, Nat.zero_add]
      simp (disch := omega) only [gp_ne, gpa_ne, gp_sp, gp_sa, upd_eq, upd_ne, gq_sp, gq_sa]
    · intro f
      show F_109_45 T a1 (nI 6) _ = _
      rw [F_109_45_eq]
      unfold B_109_45
      rw [if_pos (by decide), kAg_r]
set_option maxHeartbeats 4000000 in
theorem c_rollback {T : kT} {M : kM} (h : iNv T M) : okI T (F_151 T M) (F_109 T) := by
  have hA := h.1
  have hT := h.2.2.2.1
  have h5 := hA.2.2.2.2.1
  rcases h5.2 with g7 | g7
  · refine noI (k := 1) (b := 0) h (by decide) ?_ ?_
    · unfold F_151 F_9
      rw [h5.1, if_pos g7]; rfl
    · unfold F_109 F_108 F_108_13
      have r1 : gp (sp M lMo 0 1) lMo 0 = 1 := by simp (disch := omega) only [gp_ne, gpa_ne, gp_sp, gp_sa, upd_eq, upd_ne, gq_sp, gq_sa]
      rw [if_pos g7, r1, if_neg (by decide), kBd_s, r1, if_neg (by decide)]
  · obtain ⟨⟨k, k0, k1, k2⟩, sv, sv0⟩ := hA.2.2.2.2.2 g7
    have tb : tb5 T (sq M lD 6 none) := by
      refine ⟨⟨hT, hA.1.1, fun j hj => ?_, fun j hj => ?_⟩, fun j hj => ?_⟩
      · rw [gq_sq_ne (by simp)]; exact hA.2.1 j hj
      · obtain ⟨w, r, t1, t2, t3, t4, t5, t6, -⟩ := hA.2.2.1 j hj
        exact ⟨w, r, t2, t3, t4, t6⟩
      · obtain ⟨w, r, z1, z2, z3, z4, z5, -⟩ := sv j hj
        exact ⟨w, r, z3, z4, z1, z5⟩
    obtain ⟨X', e', s1, s2, s3, s4⟩ := cl_rest (T := T) 6 0 _ (by omega) tb
    have k1' : gp (sp X' lTs 2 0) lTs 3 = nI k := by simp (disch := omega) only [gp_ne, gpa_ne, gp_sp, gp_sa, upd_eq, upd_ne, gq_sp, gq_sa]; rw [s2 lTs (by simp) (by simp)]; exact k1
    have e1 : F_151 T M = some (0, so (sp X' lTs 2 0) 0 (nI k).toInt64) := by
      unfold F_151 F_9 F_89 F_88
      rw [h5.1, if_neg (by rw [g7]; decide), show F_89_2 T 0 (sq M lD 6 none) = _ from e', kBd_s, kBd_s, k1', kBd_s]
      rfl
    generalize hM1 : so (sp X' lTs 2 0) 0 (nI k).toInt64 = M1 at e1
    have gX : ∀ a b, a ≠ 1 → a ≠ 11 → a ≠ 13 → gp M1 (a, b) = gp M (a, b) := fun a b x y z => by rw [← hM1, gp_so]; simp (disch := omega) only [gp_ne, gpa_ne, gp_sp, gp_sa, upd_eq, upd_ne, gq_sp, gq_sa]; rw [s2 (a, b) y z]; rfl
    have gB : ∀ a b, a = 11 ∨ a = 13 → gp M1 (a, b) = gp X' (a, b) := fun a b x => by rw [← hM1, gp_so]; simp (disch := omega) only [gp_ne, gpa_ne, gp_sp, gp_sa, upd_eq, upd_ne, gq_sp, gq_sa]
    have gQ : ∀ l, gq M1 l = gq (sq M lD 6 none) l := fun l => by rw [← hM1, gq_so, gq_sp]; unfold gq; rw [s1]
    have gTs : gp M1 lTs = upd (gp M lTs) 2 0 := by rw [← hM1, gp_so]; simp (disch := omega) only [gp_ne, gpa_ne, gp_sp, gp_sa, upd_eq, upd_ne, gq_sp, gq_sa]; rw [s2 lTs (by simp) (by simp)]; rfl
    have gO : gp M1 lMo = gp M lMo := gX 10 0 (by omega) (by omega) (by omega)
    have gR : ∀ b, gp M1 (21, b) = gp M (21, b) := fun b => gX 21 b (by omega) (by omega) (by omega)
    have e2 : F_109 T M1 = some (nI k, sa (sa (sp (sp (sp M1 lMo 0 0) lMo 7 0) lMo 15 0) (lMa 5) (fl (gp M (lMa 5)) 0 1440 (fun c => gp M (lMa 10) c))) (lMa 4) (fl (gp M (lMa 4)) 0 6 (fun c => gp M (lMa 9) c))) := by
      unfold F_109 F_108 F_108_13
      rw [gO, if_neg (by rw [g7]; decide), show gp (sp M1 lMo 0 0) lMo 0 = 0 by simp (disch := omega) only [gp_ne, gpa_ne, gp_sp, gp_sa, upd_eq, upd_ne, gq_sp, gq_sa], if_pos (by decide), kBd_s, show gp (sp (sp (sp M1 lMo 0 0) lMo 7 0) lMo 15 0) lMo 0 = 0 by simp (disch := omega) only [gp_ne, gpa_ne, gp_sp, gp_sa, upd_eq, upd_ne, gq_sp, gq_sa], if_pos (by decide), rf_back]
      simp (disch := omega) only [gp_ne, gpa_ne, gp_sp, gp_sa, upd_eq, upd_ne, gq_sp, gq_sa, gO, gR]
      rw [k2]
    have go0 : go M1 0 = (nI k).toInt64 := by rw [← hM1, go_so]; exact if_pos rfl
    refine ⟨0, M1, _, _, e1, e2, by simp (disch := omega) only [gp_ne, gpa_ne, gp_sp, gp_sa, upd_eq, upd_ne, gq_sp, gq_sa], fun _ => go0, ?_, ?_, Or.inl ⟨?_, by simp (disch := omega) only [gp_ne, gpa_ne, gp_sp, gp_sa, upd_eq, upd_ne, gq_sp, gq_sa]⟩, iZ_none (M := M) (fun l x => ?_) ?_ h.2.2.2⟩
    · obtain ⟨a1, a2, a3, a4, a5, a6⟩ := hA
      unfold iA
      simp (disch := omega) only [gp_ne, gpa_ne, gp_sp, gp_sa, upd_eq, upd_ne, gq_sp, gq_sa, gO, gTs]
      refine ⟨a1, ?_, fun j hj => ?_, fun j x y => ?_, ⟨trivial, Or.inl rfl⟩, fun z => absurd z (by decide)⟩
      · intro j hj
        show gq M1 lAl j = _
        rw [gQ, gq_sq_ne (by simp)]; exact a2 j hj
      · obtain ⟨w, r, t1, t2, t3, t4, t5, t6, t7, t8, t9⟩ := a3 j hj
        obtain ⟨w', r', z1, z2, z3, z4, z5, z6, z7⟩ := sv j hj
        obtain ⟨y1, y2, y3⟩ := s4 j (by omega) hj
        have ww : w' = w := by have := z1.symm.trans t4; rwa [pn_inj (by omega) (by omega)] at this
        subst ww
        refine ⟨w', r', t1, t2, z4, ?_, ?_, ?_, ?_, fun k c hk hc => ?_, fun c hc => ?_⟩
        · simp (disch := omega) only [gp_ne, gpa_ne, gp_sp, gp_sa, upd_eq, upd_ne, gq_sp, gq_sa]; rw [gB 11 j (Or.inl rfl), y1 0 (by omega)]; exact t4
        · simp (disch := omega) only [gp_ne, gpa_ne, gp_sp, gp_sa, upd_eq, upd_ne, gq_sp, gq_sa, gR]; exact t5
        · simp (disch := omega) only [gp_ne, gpa_ne, gp_sp, gp_sa, upd_eq, upd_ne, gq_sp, gq_sa]; rw [gB 11 j (Or.inl rfl), y2]; exact z5
        · simp (disch := omega) only [gp_ne, gpa_ne, gp_sp, gp_sa, upd_eq, upd_ne, gq_sp, gq_sa]; rw [fl0_in (by omega)]; exact z6
        · have lt := mul_lt (w := w') hk
          simp (disch := omega) only [gp_ne, gpa_ne, gp_sp, gp_sa, upd_eq, upd_ne, gq_sp, gq_sa]
          rw [gB 13 j (Or.inr rfl), y3 w' r' z1 z5 t2 z4 (k * w' + c) (by omega), fl0_in (by omega)]
          exact z7 k c hk hc
        · simp (disch := omega) only [gp_ne, gpa_ne, gp_sp, gp_sa, upd_eq, upd_ne, gq_sp, gq_sa, gR]; rw [gX 12 _ (by omega) (by omega) (by omega)]; exact t9 c hc
      · have z := a4 j x y
        simp (disch := omega) only [gp_ne, gpa_ne, gp_sp, gp_sa, upd_eq, upd_ne, gq_sp, gq_sa, gR]
        rw [fl0_in y]
        exact ⟨sv0 j x y, z.2⟩
    · have hB := h.2.1
      unfold iB at *
      simp (disch := omega) only [gp_ne, gpa_ne, gp_sp, gp_sa, upd_eq, upd_ne, gq_sp, gq_sa, gX]
      exact hB
    · show gq M1 lD 6 = none; rw [gQ]; exact gq_no M
    · show gq M1 l = gq M l; rw [gQ]; exact gq_sq_ne x
    · show gq M1 lD 6 = none; rw [gQ]; exact gq_no M
