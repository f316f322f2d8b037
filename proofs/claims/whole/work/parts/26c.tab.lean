set_option maxHeartbeats 4000000 in
theorem kQb_t {T : kT} {M : kM} (h : kQl T M) : kQb T M = true := by
  unfold kQb
  exact @decide_eq_true _ (Classical.propDecidable _) h
set_option maxHeartbeats 4000000 in
theorem kCh_s {α : Type} {T T1 T2 : kT} {a : α} {M : kM} (h1 : T.1 ≤ T1.1) (h2 : T.2 ≤ T1.2) (h3 : T1.1 ≤ T2.1) (h4 : T1.2 ≤ T2.2) : kCh T T1 (some (a, T2, M)) = some (a, T2, M) := by
  unfold kCh
  rw [if_pos ⟨h1, h2⟩]
  show (if T1.1 ≤ T2.1 ∧ T1.2 ≤ T2.2 then some (a, T2, M) else none) = _
  rw [if_pos ⟨h3, h4⟩]
set_option maxHeartbeats 4000000 in
theorem kCh_0 {α : Type} {T : kT} {a : α} {M : kM} : kCh T T (some (a, T, M)) = some (a, T, M) := kCh_s (Nat.le_refl _) (Nat.le_refl _) (Nat.le_refl _) (Nat.le_refl _)
set_option maxHeartbeats 4000000 in
theorem kCh_1 {α : Type} {T : kT} {a : α} {M : kM} : kCh T (T.1 + 1, T.2) (some (a, (T.1 + 1, T.2), M)) = some (a, (T.1 + 1, T.2), M) := kCh_s (Nat.le_succ _) (Nat.le_refl _) (Nat.le_refl _) (Nat.le_refl _)
set_option maxHeartbeats 4000000 in
theorem kBt_s {α β : Type} {r : α} {T : kT} {M : kM} {f : α → kT → kM → Option β} : kBt (some (r, T, M)) f = f r T M := rfl
abbrev okA (T : kT) (c : Option (Int32 × kT × kM)) (r : kT → kM → Option (Int32 × kM)) : Prop := ∃ k T' M1 b M2, c = some (k, T', M1) ∧ r T' M1 = some (b, M2) ∧ gp M2 lMo 0 = k ∧ (k = 0 → go M2 0 = b.toInt64) ∧ iNv T' M2 ∧ T.1 ≤ T'.1 ∧ T.2 ≤ T'.2
set_option maxHeartbeats 4000000 in
theorem noA {T : kT} {M : kM} {c : Option (Int32 × kT × kM)} {r : kT → kM → Option (Int32 × kM)} {k b : Int32} (h : iNv T M) (hk : k ≠ 0) (h1 : c = some (k, T, M)) (h2 : r T M = some (b, sp M lMo 0 k)) : okA T c r :=
  ⟨k, T, M, b, sp M lMo 0 k, h1, h2, by simp (disch := omega) only [gp_ne, gpa_ne, gp_sp, gp_sa, upd_eq, upd_ne, gq_sp, gq_sa], fun z => absurd z hk, iNv_mo h, Nat.le_refl _, Nat.le_refl _⟩
set_option maxHeartbeats 4000000 in
theorem kQl_none {T : kT} {M : kM} (h : kQl T M) : kQl T (sq M lD 6 none) := by
  obtain ⟨q1, q2, q3, q4⟩ := h
  refine ⟨fun j hj => absurd ((gq_no M).symm.trans hj) (by simp), ?_, ?_, fun i hi => ?_⟩
  · rw [gq_sq_ne (by simp)]; exact q2
  · rw [gq_sq_ne (by simp)]; exact q3
  · rw [gq_sq_ne (by simp)]; exact q4 i hi
set_option maxHeartbeats 4000000 in
theorem F95_16 {T : kT} {x : Int32} {M : kM} : F_95 T x 1 6 M = some (if x < 1 ∨ ¬ x ≤ 6 then 0 else 1, M) := by
  unfold F_95
  by_cases q : x < 1
  · rw [if_pos q, if_pos (Or.inl q)]
  · rw [if_neg q]
    by_cases q2 : x ≤ 6
    · have n6 : ¬ 6 < x := not_lt_of q2
      rw [if_neg n6, if_neg (fun z => z.elim q (fun y => y q2))]
    · have : 6 < x := by rw [Int32.lt_iff_toInt_lt]; rw [Int32.le_iff_toInt_le] at q2; omega
      rw [if_pos this, if_pos (Or.inr q2)]
set_option maxHeartbeats 4000000 in
theorem c_table {T : kT} {M : kM} {x : Int32} (h : iNv T M) : okA T (F_143 T x M) (fun T' => F_100 T' x) := by
  have hA := h.1
  have hT := h.2.2.2.1
  have h5 := hA.2.2.2.2.1
  have r1 : ∀ (X : kM) (s : Int32), gp (sp X lMo 0 s) lMo 0 = s := fun X s => by simp (disch := omega) only [gp_ne, gpa_ne, gp_sp, gp_sa, upd_eq, upd_ne, gq_sp, gq_sa]
  by_cases hx : x < 1 ∨ ¬ x ≤ 6
  · refine noA (k := 1) (b := 0) h (by decide) ?_ ?_
    · unfold F_143 F_1 F_1_11
      by_cases q : x < 1
      · rw [if_pos q, kBt_s]
        show kCh T T (some (1, T, M)) = _
        rw [kCh_0]
      · rw [if_neg q, if_neg (hx.resolve_left q), kBt_s]
        show kCh T T (some (1, T, M)) = _
        rw [kCh_0]
    · show F_100 T x M = _
      unfold F_100 F_100_36
      rw [F95_16, if_pos hx, kBd_s, if_pos rfl, r1, if_neg (by decide)]
  · have hx1 : ¬ x < 1 := fun z => hx (Or.inl z)
    have hx2 : x ≤ 6 := Classical.byContradiction fun z => hx (Or.inr z)
    have x0 : ¬ x < 0 := fun z => hx1 (by rw [Int32.lt_iff_toInt_lt] at *; have : (0 : Int32).toInt = 0 := by decide
                                          have : (1 : Int32).toInt = 1 := by decide
                                          omega)
    obtain ⟨w, hw, rfl⟩ := nI_of x0
    have hw1 : 1 ≤ w := by rw [pn_ltL _ (by omega) (by omega)] at hx1; omega
    have hw6 : w ≤ 6 := by rw [pn_leL _ (by omega) (by omega)] at hx2; omega
    have ref : ∀ T' X, gp X lMo = gp M lMo → F_100 T' (nI w) X = if T.1 = 6 ∨ gp M lMo 7 ≠ 0 then some (0, sp X lMo 0 2) else some (nI T.1, sp (sp (sp (sp X lMo 0 0) (lMa 2) T.1 (nI w)) lMo 1 (nI (T.1 + 1))) lMo 15 0) := by
      intro T' X hX
      unfold F_100 F_100_36
      rw [F95_16, if_neg hx, kBd_s, if_neg (by decide), hX, hA.1.2]
      simp only [r1, if_neg (show ¬ (2 : Int32) ≤ 0 by decide), if_pos (show (0 : Int32) ≤ 0 by decide)]
      by_cases q6 : T.1 = 6
      · rw [if_pos (by rw [q6]; rfl), if_pos (Or.inl q6)]
      · rw [if_neg (by rw [show (6 : Int32) = nI 6 from rfl, pn_inj (by omega) (by omega)]; exact q6)]
        by_cases q7 : gp M lMo 7 = 0
        · rw [if_pos q7, if_neg (fun z => z.elim q6 (fun y => y q7))]
          have g1 : gp (sp X lMo 0 0) lMo 1 = nI T.1 := by simp (disch := omega) only [gp_ne, gpa_ne, gp_sp, gp_sa, upd_eq, upd_ne, gq_sp, gq_sa]; rw [hX]; exact hA.1.2
          rw [g1, kGx_nI (by omega) (by omega), pn_nat (by omega)]
          simp (disch := omega) only [gp_ne, gpa_ne, gp_sp, gp_sa, upd_eq, upd_ne, gq_sp, gq_sa, hX, hA.1.2, pn_mulL, pn_addL, pn_addR, pn_ltL, pn_ltR, pn_leL, pn_leR, pn_eqL, pn_eqR, pn_subL, pn_z, pn_add, pn_mul, pn_nat, pn_inj, pn_lt, pn_le, pn_neg, kGx_nI, kGx_L]
          rw [show T.1 + 1 - 1 = T.1 by omega]
        · rw [if_neg q7, if_pos (Or.inr q7)]
    by_cases bad : T.1 = 6 ∨ gp M lMo 7 ≠ 0
    · refine noA (k := 2) (b := 0) h (by decide) ?_ (by show F_100 T (nI w) M = _; rw [ref T M rfl, if_pos bad])
      unfold F_143 F_1 F_1_43
      rw [if_neg hx1, if_pos hx2, hA.1.1]
      by_cases q6 : T.1 = 6
      · rw [if_pos (by rw [q6]; decide), kBt_s]
        show kCh T T (some (2, T, M)) = _
        rw [kCh_0]
      · rw [if_neg (by rw [pn_leR _ (by omega) (by omega)]; omega), h5.1, if_neg (bad.resolve_left q6), kBt_s]
        show kCh T T (some (2, T, M)) = _
        rw [kCh_0]
    · have q6 : ¬ T.1 = 6 := fun z => bad (Or.inl z)
      have q7 : gp M lMo 7 = 0 := Classical.byContradiction fun z => bad (Or.inr z)
      have e84 : F_84 T (nI w) (sq M lD 6 none) = some (nI T.1, (T.1 + 1, T.2), sp (sq (nwTb (sq M lD 6 none) T.1 (nI w)) lAl T.1 (some T.1)) lTs 1 (nI (T.1 + 1))) := by
        have g1 : gp (sq M lD 6 none) lTs 1 = nI T.1 := hA.1.1
        have g2 : gp (sq (nwTb (sq M lD 6 none) T.1 (nI w)) lAl T.1 (some T.1)) lTs 1 = nI T.1 := by rw [gp_sq]; unfold nwTb; simp (disch := omega) only [gp_ne, gpa_ne, gp_sp, gp_sa, upd_eq, upd_ne, gq_sp, gq_sa]; exact hA.1.1
        unfold F_84
        rw [g1, if_neg (by rw [pn_leR _ (by omega) (by omega)]; omega), kQb_t (kQl_none h.2.2.2.2.2.2.2), kGd_t, kGx_nI (by omega) (by omega), pn_nat (by omega), g2, pn_addL, kCh_1]
      have e1 : F_143 T (nI w) M = some (0, (T.1 + 1, T.2), so (sp (sq (nwTb (sq M lD 6 none) T.1 (nI w)) lAl T.1 (some T.1)) lTs 1 (nI (T.1 + 1))) 0 (nI T.1).toInt64) := by
        unfold F_143 F_1
        rw [if_neg hx1, if_pos hx2, hA.1.1, if_neg (by rw [pn_leR _ (by omega) (by omega)]; omega), h5.1, if_pos q7, e84, kBt_s, kCh_1, kBt_s]
        show kCh T (T.1 + 1, T.2) (some (0, (T.1 + 1, T.2), _)) = _
        rw [kCh_1]
        rfl
      generalize hM1 : so (sp (sq (nwTb (sq M lD 6 none) T.1 (nI w)) lAl T.1 (some T.1)) lTs 1 (nI (T.1 + 1))) 0 (nI T.1).toInt64 = M1 at e1
      have gX : ∀ a b, (a < 11 ∨ 14 < a ∨ b ≠ T.1) → a ≠ 1 → gp M1 (a, b) = gp M (a, b) := fun a b x y => by
        rw [← hM1, gp_so]; simp (disch := omega) only [gp_ne, gpa_ne, gp_sp, gp_sa, upd_eq, upd_ne, gq_sp, gq_sa]; rw [gp_sq]; unfold nwTb
        simp (disch := omega) only [gp_ne, gpa_ne, gp_sp, gp_sa, upd_eq, upd_ne, gq_sp, gq_sa]; rfl
      have gN : ∀ k, gp M1 (lTb T.1) k = (if k = 0 then nI w else 0) := fun k => by
        rw [← hM1, gp_so]; simp (disch := omega) only [gp_ne, gpa_ne, gp_sp, gp_sa, upd_eq, upd_ne, gq_sp, gq_sa]; rw [gp_sq]; unfold nwTb; simp (disch := omega) only [gp_ne, gpa_ne, gp_sp, gp_sa, upd_eq, upd_ne, gq_sp, gq_sa]
      have gI : ∀ k, gp M1 (lTx T.1) k = 0 := fun k => by
        rw [← hM1, gp_so]; simp (disch := omega) only [gp_ne, gpa_ne, gp_sp, gp_sa, upd_eq, upd_ne, gq_sp, gq_sa]; rw [gp_sq]; unfold nwTb; simp (disch := omega) only [gp_ne, gpa_ne, gp_sp, gp_sa, upd_eq, upd_ne, gq_sp, gq_sa]
      have gTs : gp M1 lTs = upd (gp M lTs) 1 (nI (T.1 + 1)) := by
        rw [← hM1, gp_so]; simp (disch := omega) only [gp_ne, gpa_ne, gp_sp, gp_sa, upd_eq, upd_ne, gq_sp, gq_sa]; rw [gp_sq]; unfold nwTb; simp (disch := omega) only [gp_ne, gpa_ne, gp_sp, gp_sa, upd_eq, upd_ne, gq_sp, gq_sa]; rfl
      have gO : gp M1 lMo = gp M lMo := gX 10 0 (by omega) (by omega)
      have gR : ∀ b, gp M1 (21, b) = gp M (21, b) := fun b => gX 21 b (by omega) (by omega)
      have gQ : ∀ l, l ≠ lAl → gq M1 l = gq (sq M lD 6 none) l := fun l x => by
        rw [← hM1, gq_so, gq_sp, gq_sq_ne x]; rfl
      have gQa : gq M1 lAl = va_up (gq M lAl) T.1 (some T.1) := by
        rw [← hM1, gq_so, gq_sp, gq_sq]; rfl
      have go0 : go M1 0 = (nI T.1).toInt64 := by rw [← hM1, go_so]; exact if_pos rfl
      have e2 := ref (T.1 + 1, T.2) M1 gO
      rw [if_neg bad] at e2
      refine ⟨0, (T.1 + 1, T.2), M1, _, _, e1, e2, by simp (disch := omega) only [gp_ne, gpa_ne, gp_sp, gp_sa, upd_eq, upd_ne, gq_sp, gq_sa], fun _ => go0, ⟨?_, ?_, Or.inl ⟨?_, by simp (disch := omega) only [gp_ne, gpa_ne, gp_sp, gp_sa, upd_eq, upd_ne, gq_sp, gq_sa]⟩, ?_⟩, by show T.1 ≤ T.1 + 1; omega, Nat.le_refl _⟩
      · obtain ⟨a1, a2, a3, a4, a5, a6⟩ := hA
        unfold iA
        simp (disch := omega) only [gp_ne, gpa_ne, gp_sp, gp_sa, upd_eq, upd_ne, gq_sp, gq_sa, gO, gTs]
        refine ⟨⟨trivial, trivial⟩, fun j hj => ?_, fun j hj => ?_, fun j x y => ?_, a5, fun z => absurd (q7.symm.trans z) (by decide)⟩
        · show gq M1 lAl j = some j
          have hj : j < T.1 + 1 := hj
          rw [gQa]
          by_cases qj : j = T.1
          · rw [qj]; exact va_up_self _ _ _
          · rw [va_up_ne _ _ qj]; exact a2 j (by omega)
        · have hj : j < T.1 + 1 := hj
          by_cases qj : j = T.1
          · subst qj
            have z := a4 T.1 (Nat.le_refl _) (by omega)
            refine ⟨w, 0, hw1, hw6, by omega, ?_, ?_, ?_, ?_, fun k c hk => absurd hk (Nat.not_lt_zero _), fun c hc => ?_⟩
            · simp (disch := omega) only [gp_ne, gpa_ne, gp_sp, gp_sa, upd_eq, upd_ne, gq_sp, gq_sa]; rw [gN]; rfl
            · simp (disch := omega) only [gp_ne, gpa_ne, gp_sp, gp_sa, upd_eq, upd_ne, gq_sp, gq_sa]
            · simp (disch := omega) only [gp_ne, gpa_ne, gp_sp, gp_sa, upd_eq, upd_ne, gq_sp, gq_sa]; rw [gN]; rfl
            · simp (disch := omega) only [gp_ne, gpa_ne, gp_sp, gp_sa, upd_eq, upd_ne, gq_sp, gq_sa, gR]; exact z.1
            · simp (disch := omega) only [gp_ne, gpa_ne, gp_sp, gp_sa, upd_eq, upd_ne, gq_sp, gq_sa, gR]; rw [gI]; exact (z.2 c (by omega)).symm
          · obtain ⟨w', r', z1, z2, z3, z4, z5, z6, z7, z8, z9⟩ := a3 j (by omega)
            refine ⟨w', r', z1, z2, z3, ?_, ?_, ?_, ?_, fun k c hk hc => ?_, fun c hc => ?_⟩
            · simp (disch := omega) only [gp_ne, gpa_ne, gp_sp, gp_sa, upd_eq, upd_ne, gq_sp, gq_sa]; rw [gX 11 j (by omega) (by omega)]; exact z4
            · simp (disch := omega) only [gp_ne, gpa_ne, gp_sp, gp_sa, upd_eq, upd_ne, gq_sp, gq_sa, gR]; exact z5
            · simp (disch := omega) only [gp_ne, gpa_ne, gp_sp, gp_sa, upd_eq, upd_ne, gq_sp, gq_sa]; rw [gX 11 j (by omega) (by omega)]; exact z6
            · simp (disch := omega) only [gp_ne, gpa_ne, gp_sp, gp_sa, upd_eq, upd_ne, gq_sp, gq_sa, gR]; exact z7
            · simp (disch := omega) only [gp_ne, gpa_ne, gp_sp, gp_sa, upd_eq, upd_ne, gq_sp, gq_sa, gR]; rw [gX 13 j (by omega) (by omega)]; exact z8 k c hk hc
            · simp (disch := omega) only [gp_ne, gpa_ne, gp_sp, gp_sa, upd_eq, upd_ne, gq_sp, gq_sa, gR]; rw [gX 12 j (by omega) (by omega)]; exact z9 c hc
        · have z := a4 j (by have : T.1 + 1 ≤ j := x; omega) y
          simp (disch := omega) only [gp_ne, gpa_ne, gp_sp, gp_sa, upd_eq, upd_ne, gq_sp, gq_sa, gR]
          exact z
      · have hB := h.2.1
        have gH : gp M1 lHa = gp M lHa := gX 3 0 (by omega) (by omega)
        have gRd : gp M1 lRd = gp M lRd := gX 4 0 (by omega) (by omega)
        have gWo : gp M1 lWo = gp M lWo := gX 5 0 (by omega) (by omega)
        have gD : gp M1 lD = gp M lD := gX 0 0 (by omega) (by omega)
        have gLa : gp M1 lLa = gp M lLa := gX 8 0 (by omega) (by omega)
        have gRu : gp M1 lRu = gp M lRu := gX 7 0 (by omega) (by omega)
        unfold iB at *
        simp (disch := omega) only [gp_ne, gpa_ne, gp_sp, gp_sa, upd_eq, upd_ne, gq_sp, gq_sa, gR, gO, gH, gRd, gWo, gD, gLa, gRu]
        exact hB
      · show gq M1 lD 6 = none; rw [gQ _ (by simp)]; exact gq_no M
      · obtain ⟨d1, d2, d3, d4, d5⟩ := h.2.2.2
        have gq' : ∀ l, gq (sp (sp (sp (sp M1 lMo 0 0) (lMa 2) T.1 (nI w)) lMo 1 (nI (T.1 + 1))) lMo 15 0) l = gq M1 l := fun l => rfl
        refine ⟨by show T.1 + 1 ≤ 6; omega, d2, fun i hi => ?_, fun i hi => ?_, ?_⟩
        · rw [gq', gQ _ (by simp), gq_sq_ne (by simp)]; exact d3 i hi
        · rw [gq', gQ _ (by simp), gq_sq_ne (by simp)]; exact d4 i hi
        · obtain ⟨q1, q2, q3, q4⟩ := d5
          refine ⟨fun j hj => ?_, fun k j hj => ?_, fun k j hj => ?_, fun i hi => ?_⟩
          · rw [gq', gQ _ (by simp)] at hj; exact absurd ((gq_no M).symm.trans hj) (by simp)
          · rw [gq', gQa] at hj
            show j < T.1 + 1
            by_cases qk : k = T.1
            · rw [qk, va_up_self] at hj; cases hj; omega
            · rw [va_up_ne _ _ qk] at hj; have := q2 k j hj; omega
          · rw [gq', gQ _ (by simp), gq_sq_ne (by simp)] at hj; exact q3 k j hj
          · rw [gq', gQ _ (by simp), gq_sq_ne (by simp)]
            have := q4 i hi
            exact ⟨fun j hj => by show j < T.1 + 1; have := this.1 j hj; omega, this.2⟩
