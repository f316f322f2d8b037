/-! begin, commit, rollback -/
def svD (T : kT) (i : Nat) (X X' : kM) : Prop := X'.2 = X.2 ∧ (∀ l : kLb, l.1 ≠ 11 → l.1 ≠ 14 → gp X' l = gp X l) ∧ (∀ j, j < i → gp X' (lTb j) = gp X (lTb j) ∧ gp X' (lTv j) = gp X (lTv j)) ∧
  (∀ j, i ≤ j → j < T.1 → (∀ k, k ≠ 5 → gp X' (lTb j) k = gp X (lTb j) k) ∧ gp X' (lTb j) 5 = gp X (lTb j) 4 ∧ ∀ w r, gp X (lTb j) 0 = nI w → gp X (lTb j) 4 = nI r → w ≤ 6 → r ≤ 40 → ∀ x, x < r * w → gp X' (lTv j) x = gp X (lTc j) x)
def tbs (T : kT) (X : kM) : Prop := T.1 ≤ 6 ∧ gp X lTs 1 = nI T.1 ∧ (∀ j, j < T.1 → gq X lAl j = some j) ∧ ∀ j, j < T.1 → ∃ w r, w ≤ 6 ∧ r ≤ 40 ∧ gp X (lTb j) 0 = nI w ∧ gp X (lTb j) 4 = nI r
set_option maxHeartbeats 4000000 in
theorem by_in2 {T : kT} {X : kM} {j : Nat} (h : tbs T X) (hj : j < T.1) : F_83 T (nI j) X = some (some j, X) := by
  have h1 := h.1
  unfold F_83
  rw [h.2.1, if_neg (by rw [pn_neg (by omega)]; exact id), if_neg (by rw [pn_le (by omega) (by omega)]; omega), kGx_nI (by omega) (by omega), pn_nat (by omega), h.2.2.1 j hj]
set_option maxHeartbeats 4000000 in
theorem by_out2 {T : kT} {X : kM} {j : Nat} (h : tbs T X) (hj : T.1 ≤ j) (hj6 : j < 6) : F_83 T (nI j) X = some (none, X) := by
  have h1 := h.1
  unfold F_83
  rw [h.2.1, if_neg (by rw [pn_neg (by omega)]; exact id), if_pos (by rw [pn_le (by omega) (by omega)]; omega)]
set_option maxHeartbeats 4000000 in
theorem cl_save {T : kT} : ∀ m i X, i + m = 6 → tbs T X → ∃ X', F_87_12 T (nI i) X = some ((), X') ∧ svD T i X X' := by
  intro m
  induction m with
  | zero =>
    intro i X e h
    have h6 := h.1
    refine ⟨X, ?_, rfl, fun _ _ _ => rfl, fun _ _ => ⟨rfl, rfl⟩, fun j a b => by omega⟩
    rw [F_87_12_eq]
    unfold B_87_12
    rw [if_pos (by rw [pn_leR _ (by omega) (by omega)]; omega), kAg_r]
  | succ m ih =>
    intro i X e h
    have h6 := h.1
    rw [F_87_12_eq]
    unfold B_87_12
    rw [if_neg (by rw [pn_leR _ (by omega) (by omega)]; omega)]
    by_cases q : i < T.1
    · obtain ⟨w, r, w6, r4, x0, x4⟩ := h.2.2.2 i q
      have rw40 : r * w ≤ 40 * 6 := Nat.mul_le_mul r4 w6
      have e80 : F_80 T i X = some ((), sp (sa X (lTv i) (fl (gp X (lTv i)) 0 (r * w) (fun c => gp X (lTc i) c))) (lTb i) 5 (nI r)) := by
        unfold F_80
        rw [lv_tb q, kGd_t, x0, x4, pn_mul, show (0 : Int32) = nI 0 from rfl, kCk_t (by omega) (by omega) (by omega) (by omega), kGd_t, cpy_fl, pn_nat (by omega), pn_nat (by omega)]
        simp only [Nat.zero_add]
        simp (disch := omega) only [gp_ne, gpa_ne, gp_sp, gp_sa, upd_eq, upd_ne, gq_sp, gq_sa, x4]
      rw [by_in2 h q, kBd_s, kOpt_s, lv_tb q, kGd_t, e80, kBd_s, kAg_l, pn_addL]
      have tb' : tbs T (sp (sa X (lTv i) (fl (gp X (lTv i)) 0 (r * w) (fun c => gp X (lTc i) c))) (lTb i) 5 (nI r)) := by
        refine ⟨h6, ?_, h.2.2.1, fun j hj => ?_⟩
        · simp (disch := omega) only [gp_ne, gpa_ne, gp_sp, gp_sa, upd_eq, upd_ne, gq_sp, gq_sa]; exact h.2.1
        · obtain ⟨w', r', a, b, c, d⟩ := h.2.2.2 j hj
          refine ⟨w', r', a, b, ?_, ?_⟩
          · by_cases qj : j = i
            · subst qj; simp (disch := omega) only [gp_ne, gpa_ne, gp_sp, gp_sa, upd_eq, upd_ne, gq_sp, gq_sa]; exact c
            · simp (disch := omega) only [gp_ne, gpa_ne, gp_sp, gp_sa, upd_eq, upd_ne, gq_sp, gq_sa]; exact c
          · by_cases qj : j = i
            · subst qj; simp (disch := omega) only [gp_ne, gpa_ne, gp_sp, gp_sa, upd_eq, upd_ne, gq_sp, gq_sa]; exact d
            · simp (disch := omega) only [gp_ne, gpa_ne, gp_sp, gp_sa, upd_eq, upd_ne, gq_sp, gq_sa]; exact d
      obtain ⟨X', e', s1, s2, s3, s4⟩ := ih (i + 1) _ (by omega) tb'
      refine ⟨X', e', s1, fun l a b => ?_, fun j hj => ?_, fun j a b => ?_⟩
      · rw [s2 l a b, gp_sp_ne (fun z => by rw [z] at a; exact a rfl), gp_sa_ne (fun z => by rw [z] at b; exact b rfl)]
      · have := s3 j (by omega)
        rw [this.1, this.2]
        constructor <;> simp (disch := omega) only [gp_ne, gpa_ne, gp_sp, gp_sa, upd_eq, upd_ne, gq_sp, gq_sa]
      · by_cases qj : j = i
        · subst qj
          have z := s3 j (by omega)
          rw [z.1, z.2]
          refine ⟨fun k hk => ?_, ?_, fun w' r' p1 p2 p3 p4 x hx => ?_⟩
          · simp (disch := omega) only [gp_ne, gpa_ne, gp_sp, gp_sa, upd_eq, upd_ne, gq_sp, gq_sa]
          · simp (disch := omega) only [gp_ne, gpa_ne, gp_sp, gp_sa, upd_eq, upd_ne, gq_sp, gq_sa]; exact x4.symm
          · have ew : w' = w := by have := p1.symm.trans x0; rwa [pn_inj (by omega) (by omega)] at this
            have er : r' = r := by have := p2.symm.trans x4; rwa [pn_inj (by omega) (by omega)] at this
            subst ew er
            simp (disch := omega) only [gp_ne, gpa_ne, gp_sp, gp_sa, upd_eq, upd_ne, gq_sp, gq_sa]
            exact fl0_in hx
        · obtain ⟨z1, z2, z3⟩ := s4 j (by omega) b
          refine ⟨fun k hk => ?_, ?_, fun w' r' p1 p2 p3 p4 x hx => ?_⟩
          · rw [z1 k hk]; simp (disch := omega) only [gp_ne, gpa_ne, gp_sp, gp_sa, upd_eq, upd_ne, gq_sp, gq_sa]
          · rw [z2]; simp (disch := omega) only [gp_ne, gpa_ne, gp_sp, gp_sa, upd_eq, upd_ne, gq_sp, gq_sa]
          · rw [z3 w' r' (by simp (disch := omega) only [gp_ne, gpa_ne, gp_sp, gp_sa, upd_eq, upd_ne, gq_sp, gq_sa]; exact p1) (by simp (disch := omega) only [gp_ne, gpa_ne, gp_sp, gp_sa, upd_eq, upd_ne, gq_sp, gq_sa]; exact p2) p3 p4 x hx]; simp (disch := omega) only [gp_ne, gpa_ne, gp_sp, gp_sa, upd_eq, upd_ne, gq_sp, gq_sa]
    · rw [by_out2 h (by omega) (by omega), kBd_s, kOpt_n, kAg_l, pn_addL]
      obtain ⟨X', e', s1, s2, s3, s4⟩ := ih (i + 1) X (by omega) h
      exact ⟨X', e', s1, s2, fun j hj => s3 j (by omega), fun j a b => by omega⟩
set_option maxHeartbeats 4000000 in
theorem rf_begin {T : kT} {X : kM} (h7 : gp X lMo 7 = 0) : F_107 T X = some ((), sp (sp (sp (sa (sa (sp X lMo 0 0) (lMa 10) (fl (gp X (lMa 10)) 0 1440 (fun c => gp X (lMa 5) c))) (lMa 9) (fl (gp X (lMa 9)) 0 6 (fun c => gp X (lMa 4) c))) lMo 7 1) lMo 8 0) lMo 15 0) := by
  unfold F_107 F_107_13
  rw [if_pos h7, show gp (sp X lMo 0 0) lMo 0 = 0 by simp (disch := omega) only [gp_ne, gpa_ne, gp_sp, gp_sa, upd_eq, upd_ne, gq_sp, gq_sa], if_pos (by decide)]
  have g10 : gp (sp X lMo 0 0) (lMa 10) = gp X (lMa 10) := by simp (disch := omega) only [gp_ne, gpa_ne, gp_sp, gp_sa, upd_eq, upd_ne, gq_sp, gq_sa]
  rw [← g10]
  refine fill (G := fun c M => F_107_26 T (nI c) M) (K := fun M => some ((), sp (sp (sp (sa M (lMa 9) (fl (gp X (lMa 9)) 0 6 (fun c => gp X (lMa 4) c))) lMo 7 1) lMo 8 0) lMo 15 0)) (M := sp X lMo 0 0) (l := lMa 10) (d := 0) (w := 1440) (src := fun c => gp X (lMa 5) c) ?_ ?_
  · intro f c hc hf
    show F_107_26 T (nI c) _ = F_107_26 T (nI (c + 1)) _
    rw [F_107_26_eq]
    unfold B_107_26
    rw [if_neg (by rw [pn_leR _ (by omega) (by omega)]; omega), kGx_nI hc (by omega), kGx_nI hc (by omega), kAg_l, pn_nat (by omega), pn_addL]
    unfold sp
    rw [sa_sa, gp_sa, Nat.zero_add]
    simp (disch := omega) only [gp_ne, gpa_ne, gp_sp, gp_sa, upd_eq, upd_ne, gq_sp, gq_sa]
  · intro f
    show F_107_26 T (nI 1440) _ = _
    rw [F_107_26_eq]
    unfold B_107_26
    rw [if_pos (by decide), kAg_f]
    have g9 : gp (sa (sp X lMo 0 0) (lMa 10) f) (lMa 9) = gp X (lMa 9) := by simp (disch := omega) only [gp_ne, gpa_ne, gp_sp, gp_sa, upd_eq, upd_ne, gq_sp, gq_sa]
    rw [← g9]
    refine fill (G := fun c M => F_107_55 T (nI c) M) (K := fun M => some ((), sp (sp (sp M lMo 7 1) lMo 8 0) lMo 15 0)) (M := sa (sp X lMo 0 0) (lMa 10) f) (l := lMa 9) (d := 0) (w := 6) (src := fun c => gp X (lMa 4) c) ?_ ?_
    · intro f c hc hf
      show F_107_55 T (nI c) _ = F_107_55 T (nI (c + 1)) _
      rw [F_107_55_eq]
      unfold B_107_55
      rw [if_neg (by rw [pn_leR _ (by omega) (by omega)]; omega), kGx_nI hc (by omega), kGx_nI hc (by omega), kAg_l, pn_nat (by omega), pn_addL]
      unfold sp
      rw [sa_sa, gp_sa, Nat.zero_add]
      simp (disch := omega) only [gp_ne, gpa_ne, gp_sp, gp_sa, upd_eq, upd_ne, gq_sp, gq_sa]
    · intro f
      show F_107_55 T (nI 6) _ = _
      rw [F_107_55_eq]
      unfold B_107_55
      rw [if_pos (by decide), kAg_r]
set_option maxHeartbeats 4000000 in
theorem c_begin {T : kT} {M : kM} (h : iNv T M) : okU T (F_149 T M) (F_107 T) := by
  have hA := h.1
  have hT := h.2.2.2.1
  have h5 := hA.2.2.2.2.1
  rcases h5.2 with g7 | g7
  · have tb : tbs T (sp (sp (sq M lD 6 none) lTs 2 1) lTs 3 0) := by
      refine ⟨hT, ?_, fun j hj => ?_, fun j hj => ?_⟩
      · simp (disch := omega) only [gp_ne, gpa_ne, gp_sp, gp_sa, upd_eq, upd_ne, gq_sp, gq_sa, sqE]; exact hA.1.1
      · show gq (sq M lD 6 none) lAl j = _; rw [gq_sq_ne (by simp)]; exact hA.2.1 j hj
      · obtain ⟨w, r, t1, t2, t3, t4, t5, t6, -⟩ := hA.2.2.1 j hj
        refine ⟨w, r, t2, t3, ?_, ?_⟩
        · simp (disch := omega) only [gp_ne, gpa_ne, gp_sp, gp_sa, upd_eq, upd_ne, gq_sp, gq_sa, sqE]; exact t4
        · simp (disch := omega) only [gp_ne, gpa_ne, gp_sp, gp_sa, upd_eq, upd_ne, gq_sp, gq_sa, sqE]; exact t6
    obtain ⟨X', e', s1, s2, s3, s4⟩ := cl_save (T := T) 6 0 _ (by omega) tb
    have e1 : F_149 T M = some (0, X') := by
      unfold F_149 F_7 F_87
      rw [h5.1, if_pos g7, show F_87_12 T 0 (sp (sp (sq M lD 6 none) lTs 2 1) lTs 3 0) = _ from e', kBd_s, kBd_s]
      rfl
    have gX : ∀ a b, a ≠ 1 → a ≠ 11 → a ≠ 14 → gp X' (a, b) = gp M (a, b) := fun a b x y z => by rw [s2 (a, b) y z]; simp (disch := omega) only [gp_ne, gpa_ne, gp_sp, gp_sa, upd_eq, upd_ne, gq_sp, gq_sa]; rfl
    have gQ : ∀ l, gq X' l = gq (sq M lD 6 none) l := fun l => by unfold gq; rw [s1]; rfl
    have gTs : gp X' lTs = upd (upd (gp M lTs) 2 1) 3 0 := by rw [s2 lTs (by simp) (by simp)]; simp (disch := omega) only [gp_ne, gpa_ne, gp_sp, gp_sa, upd_eq, upd_ne, gq_sp, gq_sa]; rfl
    have e2 := rf_begin (T := T) (X := X') (by rw [gX 10 0 (by omega) (by omega) (by omega)]; exact g7)
    refine ⟨0, X', _, e1, e2, by simp (disch := omega) only [gp_ne, gpa_ne, gp_sp, gp_sa, upd_eq, upd_ne, gq_sp, gq_sa], ?_, ?_, Or.inl ⟨?_, by simp (disch := omega) only [gp_ne, gpa_ne, gp_sp, gp_sa, upd_eq, upd_ne, gq_sp, gq_sa]⟩, iZ_none (M := M) (fun l x => ?_) ?_ h.2.2.2⟩
    · obtain ⟨a1, a2, a3, a4, a5, a6⟩ := hA
      have gO : gp X' lMo = gp M lMo := gX 10 0 (by omega) (by omega) (by omega)
      have gR : ∀ b, gp X' (21, b) = gp M (21, b) := fun b => gX 21 b (by omega) (by omega) (by omega)
      have tbk : ∀ j, j < T.1 → ∀ k, k ≠ 5 → gp X' (lTb j) k = gp M (lTb j) k := fun j hj k hk => by rw [(s4 j (by omega) hj).1 k hk]; simp (disch := omega) only [gp_ne, gpa_ne, gp_sp, gp_sa, upd_eq, upd_ne, gq_sp, gq_sa]; rfl
      unfold iA
      simp (disch := omega) only [gp_ne, gpa_ne, gp_sp, gp_sa, upd_eq, upd_ne, gq_sp, gq_sa, gO, gTs]
      refine ⟨a1, ?_, fun j hj => ?_, fun j x y => ?_, ⟨trivial, Or.inr rfl⟩, fun _ => ⟨⟨0, by omega, rfl, rfl⟩, fun j hj => ?_, fun j x y => ?_⟩⟩
      · intro j hj
        show gq X' lAl j = _
        rw [gQ, gq_sq_ne (by simp)]; exact a2 j hj
      · obtain ⟨w, r, t1, t2, t3, t4, t5, t6, t7, t8, t9⟩ := a3 j hj
        refine ⟨w, r, t1, t2, t3, ?_, ?_, ?_, ?_, fun k c hk hc => ?_, fun c hc => ?_⟩
        · simp (disch := omega) only [gp_ne, gpa_ne, gp_sp, gp_sa, upd_eq, upd_ne, gq_sp, gq_sa]; rw [tbk j hj 0 (by omega)]; exact t4
        · simp (disch := omega) only [gp_ne, gpa_ne, gp_sp, gp_sa, upd_eq, upd_ne, gq_sp, gq_sa, gR]; exact t5
        · simp (disch := omega) only [gp_ne, gpa_ne, gp_sp, gp_sa, upd_eq, upd_ne, gq_sp, gq_sa]; rw [tbk j hj 4 (by omega)]; exact t6
        · simp (disch := omega) only [gp_ne, gpa_ne, gp_sp, gp_sa, upd_eq, upd_ne, gq_sp, gq_sa, gR]; exact t7
        · simp (disch := omega) only [gp_ne, gpa_ne, gp_sp, gp_sa, upd_eq, upd_ne, gq_sp, gq_sa, gR]; rw [gX 13 _ (by omega) (by omega) (by omega)]; exact t8 k c hk hc
        · simp (disch := omega) only [gp_ne, gpa_ne, gp_sp, gp_sa, upd_eq, upd_ne, gq_sp, gq_sa, gR]; rw [gX 12 _ (by omega) (by omega) (by omega)]; exact t9 c hc
      · have z := a4 j x y
        simp (disch := omega) only [gp_ne, gpa_ne, gp_sp, gp_sa, upd_eq, upd_ne, gq_sp, gq_sa, gR]
        exact z
      · obtain ⟨w, r, t1, t2, t3, t4, t5, t6, t7, t8, t9⟩ := a3 j hj
        obtain ⟨z1, z2, z3⟩ := s4 j (by omega) hj
        refine ⟨w, r, ?_, t1, t2, t3, ?_, ?_, fun k c hk hc => ?_⟩
        · simp (disch := omega) only [gp_ne, gpa_ne, gp_sp, gp_sa, upd_eq, upd_ne, gq_sp, gq_sa]; rw [tbk j hj 0 (by omega)]; exact t4
        · simp (disch := omega) only [gp_ne, gpa_ne, gp_sp, gp_sa, upd_eq, upd_ne, gq_sp, gq_sa]; rw [z2]; simp (disch := omega) only [gp_ne, gpa_ne, gp_sp, gp_sa, upd_eq, upd_ne, gq_sp, gq_sa, sqE]; exact t6
        · simp (disch := omega) only [gp_ne, gpa_ne, gp_sp, gp_sa, upd_eq, upd_ne, gq_sp, gq_sa, gR]; rw [fl0_in (by omega)]; exact t7
        · have lt := mul_lt (w := w) hk
          simp (disch := omega) only [gp_ne, gpa_ne, gp_sp, gp_sa, upd_eq, upd_ne, gq_sp, gq_sa, gR]
          rw [z3 w r (by simp (disch := omega) only [gp_ne, gpa_ne, gp_sp, gp_sa, upd_eq, upd_ne, gq_sp, gq_sa, sqE]; exact t4) (by simp (disch := omega) only [gp_ne, gpa_ne, gp_sp, gp_sa, upd_eq, upd_ne, gq_sp, gq_sa, sqE]; exact t6) t2 t3 (k * w + c) (by omega), fl0_in (by omega)]
          simp (disch := omega) only [gp_ne, gpa_ne, gp_sp, gp_sa, upd_eq, upd_ne, gq_sp, gq_sa, sqE]
          exact t8 k c hk hc
      · have z := a4 j x y
        simp (disch := omega) only [gp_ne, gpa_ne, gp_sp, gp_sa, upd_eq, upd_ne, gq_sp, gq_sa, gR]
        rw [fl0_in y]
        exact z.1
    · have hB := h.2.1
      unfold iB at *
      simp (disch := omega) only [gp_ne, gpa_ne, gp_sp, gp_sa, upd_eq, upd_ne, gq_sp, gq_sa, gX]
      exact hB
    · show gq X' lD 6 = none; rw [gQ]; exact gq_no M
    · show gq X' l = gq M l; rw [gQ]; exact gq_sq_ne x
    · show gq X' lD 6 = none; rw [gQ]; exact gq_no M
  · refine noU (k := 1) h ?_ ?_
    · unfold F_149 F_7
      rw [h5.1, if_neg (by rw [g7]; decide)]; rfl
    · unfold F_107 F_107_13
      rw [if_neg (by rw [g7]; decide), show gp (sp M lMo 0 1) lMo 0 = 1 by simp (disch := omega) only [gp_ne, gpa_ne, gp_sp, gp_sa, upd_eq, upd_ne, gq_sp, gq_sa], if_neg (by decide)]
set_option maxHeartbeats 4000000 in
theorem c_commit {T : kT} {M : kM} (h : iNv T M) : okI T (F_150 T M) (F_108 T) := by
  have hA := h.1
  have h5 := hA.2.2.2.2.1
  rcases h5.2 with g7 | g7
  · refine noI (k := 1) (b := 0) h (by decide) ?_ ?_
    · unfold F_150 F_8
      rw [h5.1, if_pos g7]; rfl
    · unfold F_108 F_108_13
      rw [if_pos g7, show gp (sp M lMo 0 1) lMo 0 = 1 by simp (disch := omega) only [gp_ne, gpa_ne, gp_sp, gp_sa, upd_eq, upd_ne, gq_sp, gq_sa], if_neg (by decide)]
  · obtain ⟨k, k0, k1, k2⟩ := (hA.2.2.2.2.2 g7).1
    have e1 : F_150 T M = some (0, so (sp (sq M lD 6 none) lTs 2 0) 0 (nI k).toInt64) := by
      unfold F_150 F_8 F_88
      have : gp (sp (sq M lD 6 none) lTs 2 0) lTs 3 = nI k := by simp (disch := omega) only [gp_ne, gpa_ne, gp_sp, gp_sa, upd_eq, upd_ne, gq_sp, gq_sa, sqE]; exact k1
      rw [h5.1, if_neg (by rw [g7]; decide), this]; rfl
    have e2 : F_108 T (so (sp (sq M lD 6 none) lTs 2 0) 0 (nI k).toInt64) = some (nI k, sp (sp (sp (so (sp (sq M lD 6 none) lTs 2 0) 0 (nI k).toInt64) lMo 0 0) lMo 7 0) lMo 15 0) := by
      unfold F_108 F_108_13
      have q7 : gp (so (sp (sq M lD 6 none) lTs 2 0) 0 (nI k).toInt64) lMo 7 = 1 := by rw [gp_so]; simp (disch := omega) only [gp_ne, gpa_ne, gp_sp, gp_sa, upd_eq, upd_ne, gq_sp, gq_sa, sqE]; exact g7
      rw [q7, if_neg (by decide), show gp (sp (so (sp (sq M lD 6 none) lTs 2 0) 0 (nI k).toInt64) lMo 0 0) lMo 0 = 0 by simp (disch := omega) only [gp_ne, gpa_ne, gp_sp, gp_sa, upd_eq, upd_ne, gq_sp, gq_sa], if_pos (by decide)]
      simp (disch := omega) only [gp_ne, gpa_ne, gp_sp, gp_sa, upd_eq, upd_ne, gq_sp, gq_sa, gp_so, sqE]
      rw [k2]
    refine ⟨0, _, _, _, e1, e2, by simp (disch := omega) only [gp_ne, gpa_ne, gp_sp, gp_sa, upd_eq, upd_ne, gq_sp, gq_sa], fun _ => by rw [go_sp, go_sp, go_sp, go_so]; exact if_pos rfl, ?_, ?_, Or.inl ⟨gq_no M, by simp (disch := omega) only [gp_ne, gpa_ne, gp_sp, gp_sa, upd_eq, upd_ne, gq_sp, gq_sa]⟩, iZ_none (M := M) (fun l x => gq_sq_ne x) (gq_no M) h.2.2.2⟩
    · obtain ⟨a1, a2, a3, a4, a5, a6⟩ := hA
      unfold iA iTb iSv at *
      simp (disch := omega) only [gp_ne, gpa_ne, gp_sp, gp_sa, upd_eq, upd_ne, gq_sp, gq_sa, gp_so, sqE]
      exact ⟨a1, a2, a3, a4, ⟨trivial, Or.inl rfl⟩, fun z => absurd z (by decide)⟩
    · have hB := h.2.1
      unfold iB at *
      simp (disch := omega) only [gp_ne, gpa_ne, gp_sp, gp_sa, upd_eq, upd_ne, gq_sp, gq_sa, gp_so, sqE]
      exact hB
