/-! the reader's terms -/
set_option maxHeartbeats 4000000 in
theorem tmI {t : Nat} {l : kLb} (z : l = lTm t) : 15 ≤ l.1 ∧ l.1 ≤ 20 ∧ t ≤ l.2 := by subst z; exact ⟨by show 15 ≤ 15; omega, by show 15 ≤ 20; omega, Nat.le_refl _⟩
set_option maxHeartbeats 4000000 in
theorem pkI {t : Nat} {l : kLb} (z : l = lPk t) : 15 ≤ l.1 ∧ l.1 ≤ 20 ∧ t ≤ l.2 := by subst z; exact ⟨by show 15 ≤ 16; omega, by show 16 ≤ 20; omega, Nat.le_refl _⟩
set_option maxHeartbeats 4000000 in
theorem tmQ {t u : Nat} {l : kLb} (h : t ≤ u) (z : l = lTm u) : l.1 = 15 ∧ t ≤ l.2 := by subst z; exact ⟨rfl, h⟩
/-- what holds of the class's store of terms -/
def stT (T : kT) (t : Nat) (C : kM) : Prop := T.1 ≤ 6 ∧ T.2 ≤ 60 ∧ t ≤ T.2 ∧ gp C lRd 5 = nI t ∧ (∀ i, i < T.2 → gq C lTe i = some i) ∧ (∀ i, T.2 ≤ i → gq C lTe i = none) ∧ kQl T C ∧ gp C lTs 1 = nI T.1 ∧ (∀ j, j < T.1 → gq C lAl j = some j)
/-- nothing below t is touched -/
def frT (t : Nat) (C C' : kM) : Prop := (∀ l : kLb, l ≠ lRd → ¬ (15 ≤ l.1 ∧ l.1 ≤ 20 ∧ t ≤ l.2) → gp C' l = gp C l) ∧ (∀ l : kLb, l ≠ lTe → ¬ (l.1 = 15 ∧ t ≤ l.2) → gq C' l = gq C l) ∧ (∀ k, k ≠ 2 → k ≠ 3 → k ≠ 5 → gp C' lRd k = gp C lRd k) ∧ go C' = go C
set_option maxHeartbeats 4000000 in
theorem frT_refl (t : Nat) (C : kM) : frT t C C := ⟨fun _ _ _ => rfl, fun _ _ _ => rfl, fun _ _ _ _ => rfl, rfl⟩
set_option maxHeartbeats 4000000 in
theorem frT_trans {t t1 t2 : Nat} {A B C : kM} (h : frT t1 A B) (g : frT t2 B C) (h1 : t ≤ t1) (h2 : t ≤ t2) : frT t A C := ⟨fun l x y => (g.1 l x (by omega)).trans (h.1 l x (by omega)), fun l x y => (g.2.1 l x (by omega)).trans (h.2.1 l x (by omega)), fun k x y z => (g.2.2.1 k x y z).trans (h.2.2.1 k x y z), g.2.2.2.trans h.2.2.2⟩
set_option maxHeartbeats 4000000 in
theorem frT_rel {t : Nat} {C C1 : kM} (h : relC C C1) : frT t C C1 := by
  refine ⟨fun l x _ => h.1 l x, fun l _ _ => by unfold gq; rw [h.2.2], fun k x y _ => h.2.1 k x y, by unfold go; rw [h.2.2]⟩
set_option maxHeartbeats 4000000 in
theorem frT_N {t : Nat} {C C1 : kM} (h : frN t C C1) : frT t C C1 := by
  refine ⟨fun l x y => h.1 l x (fun z => y (tmI z)) (fun z => y (pkI z)), fun l _ y => h.2.2.2.1 l (fun z => y (tmQ (Nat.le_refl _) z)), fun k x y _ => h.2.2.1 k x y, h.2.2.2.2.2⟩
set_option maxHeartbeats 4000000 in
theorem stT_rel {T : kT} {t : Nat} {C C1 : kM} (h : relC C C1) (g : stT T t C) : stT T t C1 := by
  obtain ⟨a, b, c, d, e, f, i, j, k⟩ := g
  have q : ∀ l, gq C1 l = gq C l := fun l => by unfold gq; rw [h.2.2]
  refine ⟨a, b, c, by rw [h.2.1 5 (by decide) (by decide)]; exact d, by rw [q]; exact e, by rw [q]; exact f, kQl_cg q i, by rw [h.1 lTs (by simp)]; exact j, by rw [q]; exact k⟩
/-- the term as it is begun -/
def beg (k t : Nat) (C : kM) : Prop := gp C (lTm t) 0 = nI k ∧ gp C (lTm t) 1 = 0 ∧ gp C (lTm t) 2 = 0 ∧ gp C (lTm t) 3 = 0 ∧ gq C (lTm t) 6 = none ∧ gq C (lTm t) 7 = none ∧ gq C (lTm t) 8 = none
set_option maxHeartbeats 4000000 in
theorem nx_46 {T : kT} {k t : Nat} {C : kM} (ht : t < T.2) (h : stT T t C) : ∃ C', F_37_46 T (nI k) C = some (some t, T, C') ∧ beg k t C' ∧ stT T (t + 1) C' ∧ frT t C C' ∧ gp C' lRd 2 = gp C lRd 2 ∧ gp C' lRd 3 = gp C lRd 3 := by
  obtain ⟨a, b, c, d, e, f, i, j, l⟩ := h
  have e46 : F_37_46 T (nI k) C = some (some t, T, sp (sq (sq (sq (sp (sp (sp (sp (sp (sp C lRd 5 (nI (t + 1))) (lTm t) 0 (nI k)) (lTm t) 1 0) (lTm t) 2 0) (lTm t) 3 0) (lTm t) 4 0) (lTm t) 6 none) (lTm t) 7 none) (lTm t) 8 none) (lTm t) 9 0) := by
    unfold F_37_46 F_91
    rw [d, kGx_nI (by omega) (by omega), pn_nat (by omega), e t ht, kOpt_s, lv_tm ht, kGd_t, kGd_t, kBd_s, pn_addL]
  have gE : ∀ l, l ≠ lTm t → gq (sp (sq (sq (sq (sp (sp (sp (sp (sp (sp C lRd 5 (nI (t + 1))) (lTm t) 0 (nI k)) (lTm t) 1 0) (lTm t) 2 0) (lTm t) 3 0) (lTm t) 4 0) (lTm t) 6 none) (lTm t) 7 none) (lTm t) 8 none) (lTm t) 9 0) l = gq C l := fun l hl => by
    rw [gq_sp, gq_sq_ne hl, gq_sq_ne hl, gq_sq_ne hl]; rfl
  have gT : gq (sp (sq (sq (sq (sp (sp (sp (sp (sp (sp C lRd 5 (nI (t + 1))) (lTm t) 0 (nI k)) (lTm t) 1 0) (lTm t) 2 0) (lTm t) 3 0) (lTm t) 4 0) (lTm t) 6 none) (lTm t) 7 none) (lTm t) 8 none) (lTm t) 9 0) (lTm t) = va_up (va_up (va_up (gq C (lTm t)) 6 none) 7 none) 8 none := by
    rw [gq_sp, gq_sq, gq_sq, gq_sq]; rfl
  refine ⟨_, e46, ⟨?_, ?_, ?_, ?_, ?_, ?_, ?_⟩, ⟨a, b, by omega, ?_, ?_, ?_, ?_, ?_, ?_⟩, ⟨fun l x y => ?_, fun l x y => ?_, fun k x y z => ?_, rfl⟩, ?_, ?_⟩
  · simp (disch := omega) only [gp_ne, gpa_ne, gp_sp, gp_sa, upd_eq, upd_ne, gq_sp, gq_sa, gp_sq]
  · simp (disch := omega) only [gp_ne, gpa_ne, gp_sp, gp_sa, upd_eq, upd_ne, gq_sp, gq_sa, gp_sq]
  · simp (disch := omega) only [gp_ne, gpa_ne, gp_sp, gp_sa, upd_eq, upd_ne, gq_sp, gq_sa, gp_sq]
  · simp (disch := omega) only [gp_ne, gpa_ne, gp_sp, gp_sa, upd_eq, upd_ne, gq_sp, gq_sa, gp_sq]
  · rw [gT, va_up_ne _ _ (by decide), va_up_ne _ _ (by decide), va_up_self]
  · rw [gT, va_up_ne _ _ (by decide), va_up_self]
  · rw [gT, va_up_self]
  · simp (disch := omega) only [gp_ne, gpa_ne, gp_sp, gp_sa, upd_eq, upd_ne, gq_sp, gq_sa, gp_sq]
  · rw [gE lTe (by simp)]; exact e
  · rw [gE lTe (by simp)]; exact f
  · obtain ⟨q1, q2, q3, q4⟩ := i
    refine ⟨by rw [gE lD (by simp)]; exact q1, by rw [gE lAl (by simp)]; exact q2, by rw [gE lTe (by simp)]; exact q3, fun i hi => ?_⟩
    by_cases qi : i = t
    · subst qi
      rw [gT]
      have z := q4 i hi
      refine ⟨fun j hj => ?_, fun j hj => ?_, fun j hj => ?_⟩
      · rw [va_up_ne _ _ (by decide), va_up_ne _ _ (by decide), va_up_self] at hj; exact absurd hj (by simp)
      · rw [va_up_ne _ _ (by decide), va_up_self] at hj; exact absurd hj (by simp)
      · rw [va_up_self] at hj; exact absurd hj (by simp)
    · rw [gE (lTm i) (by simpa using qi)]; exact q4 i hi
  · simp (disch := omega) only [gp_ne, gpa_ne, gp_sp, gp_sa, upd_eq, upd_ne, gq_sp, gq_sa, gp_sq]; exact j
  · rw [gE lAl (by simp)]; exact l
  · have yt : l ≠ lTm t := fun z => y (tmI z)
    rw [gp_sp_ne yt, gp_sq, gp_sq, gp_sq, gp_sp_ne yt, gp_sp_ne yt, gp_sp_ne yt, gp_sp_ne yt, gp_sp_ne yt, gp_sp_ne x]
  · exact gE l (fun z => y (tmQ (Nat.le_refl _) z))
  · simp (disch := omega) only [gp_ne, gpa_ne, gp_sp, gp_sa, upd_eq, upd_ne, gq_sp, gq_sa, gp_sq]
  · simp (disch := omega) only [gp_ne, gpa_ne, gp_sp, gp_sa, upd_eq, upd_ne, gq_sp, gq_sa, gp_sq]
  · simp (disch := omega) only [gp_ne, gpa_ne, gp_sp, gp_sa, upd_eq, upd_ne, gq_sp, gq_sa, gp_sq]
set_option maxHeartbeats 4000000 in
theorem nwTm_q {M : kM} {n : Nat} {l : kLb} (h : l ≠ lTm n) : gq (nwTm M n) l = gq M l := if_neg h
set_option maxHeartbeats 4000000 in
theorem nwTm_p {M : kM} {n a b : Nat} (h : a < 15 ∨ 20 < a ∨ b ≠ n) : gp (nwTm M n) (a, b) = gp M (a, b) := by
  unfold nwTm
  show gp (sa (sa (sa (sa (sa (sa M (lTm n) (fun _ => 0)) (lPk n) (fun _ => 0)) (lRw n) (fun _ => 0)) (lKp n) (fun _ => 0)) (lKc n) (fun _ => 0)) (lKo n) (fun _ => 0)) (a, b) = _
  simp (disch := omega) only [gp_ne, gpa_ne, gp_sp, gp_sa, upd_eq, upd_ne, gq_sp, gq_sa]
set_option maxHeartbeats 4000000 in
theorem nxTm {T : kT} {k t : Nat} {C : kM} (ht : t < 60) (hw : gp C lRd 2 = -1) (h : stT T t C) : ∃ T' C', F_37 T (nI k) C = some (some t, T', C') ∧ T'.1 = T.1 ∧ T.2 ≤ T'.2 ∧ t < T'.2 ∧ beg k t C' ∧ stT T' (t + 1) C' ∧ frT t C C' ∧ gp C' lRd 2 = -1 ∧ gp C' lRd 3 = gp C lRd 3 := by
  obtain ⟨a, b, c, d, e, f, i, j, l⟩ := h
  unfold F_37 F_33
  rw [hw, if_pos rfl, kBd_s, if_pos rfl, d, if_pos (by rw [pn_ltL _ (by omega) (by omega)]; exact ht), kGx_nI ht (by omega), pn_nat (by omega)]
  by_cases q : t < T.2
  · obtain ⟨C', x1, x2, x3, x4, x5, x6⟩ := nx_46 (k := k) q ⟨a, b, c, d, e, f, i, j, l⟩
    rw [e t q, kOpt_s]
    exact ⟨T, C', x1, rfl, Nat.le_refl _, q, x2, x3, x4, by rw [x5]; exact hw, x6⟩
  · have qt : t = T.2 := by omega
    have gE : ∀ l, l ≠ lTe → l ≠ lTm T.2 → gq (sq (nwTm C T.2) lTe t (some T.2)) l = gq C l := fun l x y => by rw [gq_sq_ne x, nwTm_q y]
    have gTe : gq (sq (nwTm C T.2) lTe t (some T.2)) lTe = va_up (gq C lTe) t (some T.2) := by rw [gq_sq, nwTm_q (by simp)]
    have st' : stT (T.1, T.2 + 1) t (sq (nwTm C T.2) lTe t (some T.2)) := by
      refine ⟨a, by show T.2 + 1 ≤ 60; omega, by show t ≤ T.2 + 1; omega, ?_, fun i hi => ?_, fun i hi => ?_, ?_, ?_, ?_⟩
      · rw [gp_sq, nwTm_p (by omega)]; exact d
      · have hi : i < T.2 + 1 := hi
        rw [gTe]
        by_cases qi : i = t
        · rw [qi, va_up_self, qt]
        · rw [va_up_ne _ _ qi]; exact e i (by omega)
      · have hi : T.2 + 1 ≤ i := hi
        rw [gTe, va_up_ne _ _ (by omega)]; exact f i (by omega)
      · obtain ⟨q1, q2, q3, q4⟩ := i
        refine ⟨fun j hj => ?_, fun k j hj => ?_, fun k j hj => ?_, fun i hi => ?_⟩
        · rw [gE lD (by simp) (by simp)] at hj; have := q1 j hj; show j < T.2 + 1; omega
        · rw [gE lAl (by simp) (by simp)] at hj; exact q2 k j hj
        · rw [gTe] at hj
          show j < T.2 + 1
          by_cases qk : k = t
          · rw [qk, va_up_self] at hj; cases hj; omega
          · rw [va_up_ne _ _ qk] at hj; have := q3 k j hj; omega
        · have hi : i < T.2 + 1 := hi
          by_cases qi : i = T.2
          · have gN : gq (sq (nwTm C T.2) lTe t (some T.2)) (lTm i) = fun _ => none := by rw [gq_sq_ne (by simp), qi]; exact if_pos rfl
            rw [gN]
            exact ⟨fun j hj => absurd hj (by simp), fun j hj => absurd hj (by simp), fun j hj => absurd hj (by simp)⟩
          · rw [gE (lTm i) (by simp) (by simpa using qi)]
            have z := q4 i (by omega)
            exact ⟨z.1, fun j hj => by show j < T.2 + 1; have := z.2.1 j hj; omega, fun j hj => by show j < T.2 + 1; have := z.2.2 j hj; omega⟩
      · rw [gp_sq, nwTm_p (by omega)]; exact j
      · rw [gE lAl (by simp) (by simp)]; exact l
    obtain ⟨C', x1, x2, x3, x4, x5, x6⟩ := nx_46 (T := (T.1, T.2 + 1)) (k := k) (by show t < T.2 + 1; omega) st'
    rw [f t (by omega), kOpt_n, kQb_t i, kGd_t, kGx_nI ht (by omega), x1]
    refine ⟨(T.1, T.2 + 1), C', kCh_s (Nat.le_refl _) (Nat.le_succ _) (Nat.le_refl _) (Nat.le_refl _), rfl, Nat.le_succ _, by show t < T.2 + 1; omega, x2, x3, ?_, ?_, ?_⟩
    · refine frT_trans (t1 := t) (t2 := t) (B := sq (nwTm C T.2) lTe t (some T.2)) ⟨fun l x y => ?_, fun l x y => ?_, fun k x y z => ?_, rfl⟩ x4 (Nat.le_refl _) (Nat.le_refl _)
      · obtain ⟨l1, l2⟩ := l
        rw [gp_sq]
        exact nwTm_p (by simp only at y; omega)
      · exact gE l x (fun z => y (tmQ (by omega) z))
      · rw [gp_sq, nwTm_p (by omega)]
    · rw [x5, gp_sq, nwTm_p (by omega)]; exact hw
    · rw [x6, gp_sq, nwTm_p (by omega)]
