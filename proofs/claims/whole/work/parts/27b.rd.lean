def relC (C C1 : kM) : Prop := (∀ l, l ≠ lRd → gp C1 l = gp C l) ∧ (∀ k, k ≠ 2 → k ≠ 3 → gp C1 lRd k = gp C lRd k) ∧ C1.2 = C.2
def relR (R R1 : kM) : Prop := (∀ l, l ≠ lMo → gp R1 l = gp R l) ∧ (∀ k, k ≠ 22 → k ≠ 23 → gp R1 lMo k = gp R lMo k) ∧ R1.2 = R.2
set_option maxHeartbeats 4000000 in
theorem relC_refl (C : kM) : relC C C := ⟨fun _ _ => rfl, fun _ _ _ => rfl, rfl⟩
set_option maxHeartbeats 4000000 in
theorem relR_refl (C : kM) : relR C C := ⟨fun _ _ => rfl, fun _ _ _ => rfl, rfl⟩
set_option maxHeartbeats 4000000 in
theorem relR_trans {A B C : kM} (h : relR A B) (g : relR B C) : relR A C := ⟨fun l x => (g.1 l x).trans (h.1 l x), fun k x y => (g.2.1 k x y).trans (h.2.1 k x y), g.2.2.trans h.2.2⟩
set_option maxHeartbeats 4000000 in
theorem relC_3 {C : kM} {x : Int32} : relC C (sp C lRd 3 x) := ⟨fun l h => gp_sp_ne h, fun k a b => by simp (disch := omega) only [gp_ne, gpa_ne, gp_sp, gp_sa, upd_eq, upd_ne, gq_sp, gq_sa], rfl⟩
set_option maxHeartbeats 4000000 in
theorem relC_2 {C : kM} {x : Int32} : relC C (sp C lRd 2 x) := ⟨fun l h => gp_sp_ne h, fun k a b => by simp (disch := omega) only [gp_ne, gpa_ne, gp_sp, gp_sa, upd_eq, upd_ne, gq_sp, gq_sa], rfl⟩
set_option maxHeartbeats 4000000 in
theorem relC_32 {C : kM} {x y : Int32} : relC C (sp (sp C lRd 3 x) lRd 2 y) := ⟨fun l h => by rw [gp_sp_ne h, gp_sp_ne h], fun k a b => by simp (disch := omega) only [gp_ne, gpa_ne, gp_sp, gp_sa, upd_eq, upd_ne, gq_sp, gq_sa], rfl⟩
set_option maxHeartbeats 4000000 in
theorem relR_22 {C : kM} {x : Int32} : relR C (sp C lMo 22 x) := ⟨fun l h => gp_sp_ne h, fun k a b => by simp (disch := omega) only [gp_ne, gpa_ne, gp_sp, gp_sa, upd_eq, upd_ne, gq_sp, gq_sa], rfl⟩
set_option maxHeartbeats 4000000 in
theorem relR_23 {C : kM} {x : Int32} : relR C (sp C lMo 23 x) := ⟨fun l h => gp_sp_ne h, fun k a b => by simp (disch := omega) only [gp_ne, gpa_ne, gp_sp, gp_sa, upd_eq, upd_ne, gq_sp, gq_sa], rfl⟩
set_option maxHeartbeats 4000000 in
theorem wW_rel {R R1 : kM} (h : relR R R1) (k : Nat) : wW R1 k = wW R k := by show gp R1 (lMa 13) k = gp R (lMa 13) k; rw [h.1 (lMa 13) (by simp)]
set_option maxHeartbeats 4000000 in
theorem RS_c {m p : Nat} {C C' R : kM} (h1 : gp C' lRd = gp C lRd) (h2 : gp C' lWo = gp C lWo) (h : RS m p C R) : RS m p C' R := by
  unfold RS at *
  rw [h1, h2]; exact h
set_option maxHeartbeats 4000000 in
theorem FS_c {m : Nat} {C C' R : kM} (h1 : gp C' lRd = gp C lRd) (h : FS m C R) : FS m C' R := by
  unfold FS at *
  rw [h1]; exact h
set_option maxHeartbeats 4000000 in
theorem stIn {T : kT} {m : Nat} {C R : kM} (lo hi : Int32) (hx : (∃ p, RS m p C R) ∨ FS m C R) : ∃ v C1 x R1, F_36 T lo hi C = some (v, C1) ∧ F_113 T lo hi R = some (x, R1) ∧ relC C C1 ∧ relR R R1 ∧ (FS m C R → FS m C1 R1) ∧ ∀ p, RS m p C R → FS m C1 R1 ∨ (RS m (p + 1) C1 R1 ∧ v = wW R p ∧ x = wW R p ∧ p < m ∧ okW lo hi (wW R p)) := by
  rcases hx with ⟨p, h⟩ | h
  · by_cases ok : p < m ∧ okW lo hi (wW R p)
    · refine ⟨_, _, _, _, ni_ok h ok.1 ok.2, nb_ok h ok.1 ok.2, relC_3, relR_22, fun z => ?_, fun p' h' => ?_⟩
      · obtain ⟨-, -, -, q, hq, z1, -⟩ := z
        exact absurd (z1.symm.trans h.2.2.2.2.2.2.1) (pn_ne1 (by omega))
      · have : p' = p := by
          have e := h'.2.2.2.2.1.symm.trans h.2.2.2.2.1
          have := h.1; have := h.2.1; have := h'.1; have := h'.2.1
          rwa [pn_inj (by omega) (by omega)] at e
        subst this
        exact Or.inr ⟨(nw_ok (T := T) h ok.1).2, rfl, rfl, ok.1, ok.2⟩
    · have hw : p < m → ¬ okW lo hi (wW R p) := fun a b => ok ⟨a, b⟩
      obtain ⟨v, C', e1, x, rfl⟩ := ni_bad (T := T) h hw
      exact ⟨v, _, 0, _, e1, nb_bad h hw, relC_32, relR_23, fun _ => fs_bad h, fun _ _ => Or.inl (fs_bad h)⟩
  · obtain ⟨v, e1⟩ := ni_fs (T := T) (lo := lo) (hi := hi) h
    refine ⟨v, C, 0, R, e1, nb_fs h, relC_refl C, relR_refl R, fun _ => h, fun p h' => Or.inl h⟩
set_option maxHeartbeats 4000000 in
theorem stAny {T : kT} {m : Nat} {C R : kM} (hx : (∃ p, RS m p C R) ∨ FS m C R) : ∃ v C1 x R1, F_35 T C = some (v, C1) ∧ F_114 T R = some (x, R1) ∧ relC C C1 ∧ relR R R1 ∧ (FS m C R → FS m C1 R1) ∧ ∀ p, RS m p C R → FS m C1 R1 ∨ (RS m (p + 1) C1 R1 ∧ v = wW R p ∧ x = wW R p ∧ p < m) := by
  unfold F_114
  rcases hx with ⟨p, h⟩ | h
  · by_cases ok : p < m
    · refine ⟨_, _, wW R p, _, (nw_ok (T := T) h ok).1, by rw [nb_ok h ok (okAny _), kBd_s], relC_3, relR_22, fun z => ?_, fun p' h' => ?_⟩
      · obtain ⟨-, -, -, q, hq, z1, -⟩ := z
        exact absurd (z1.symm.trans h.2.2.2.2.2.2.1) (pn_ne1 (by omega))
      · have : p' = p := by
          have e := h'.2.2.2.2.1.symm.trans h.2.2.2.2.1
          have := h.1; have := h.2.1; have := h'.1; have := h'.2.1
          rwa [pn_inj (by omega) (by omega)] at e
        subst this
        exact Or.inr ⟨(nw_ok (T := T) h ok).2, rfl, rfl, ok⟩
    · have e : p = m := by have := h.2.1; omega
      subst e
      refine ⟨0, _, 0, _, nw_end h, by rw [nb_bad h (fun z => absurd z ok), kBd_s], relC_2, relR_23, fun _ => fs_end h p (by have := h.1; omega), fun _ _ => Or.inl (fs_end h p (by have := h.1; omega))⟩
  · exact ⟨0, C, 0, R, nw_fs h, by rw [nb_fs h, kBd_s], relC_refl C, relR_refl R, fun _ => h, fun p h' => Or.inl h⟩
/-- what reading a term's numbers leaves alone -/
def frN (t : Nat) (C C' : kM) : Prop := (∀ l, l ≠ lRd → l ≠ lTm t → l ≠ lPk t → gp C' l = gp C l) ∧ (∀ k, k = 0 ∨ 9 ≤ k → gp C' (lTm t) k = gp C (lTm t) k) ∧ (∀ k, k ≠ 2 → k ≠ 3 → gp C' lRd k = gp C lRd k) ∧ (∀ l, l ≠ lTm t → gq C' l = gq C l) ∧ (∀ k, k ≠ 6 → gq C' (lTm t) k = gq C (lTm t) k) ∧ go C' = go C
set_option maxHeartbeats 4000000 in
theorem frN_refl (t : Nat) (C : kM) : frN t C C := ⟨fun _ _ _ _ => rfl, fun _ _ => rfl, fun _ _ _ => rfl, fun _ _ => rfl, fun _ _ => rfl, rfl⟩
set_option maxHeartbeats 4000000 in
theorem frN_trans {t : Nat} {A B C : kM} (h : frN t A B) (g : frN t B C) : frN t A C := ⟨fun l x y z => (g.1 l x y z).trans (h.1 l x y z), fun k x => (g.2.1 k x).trans (h.2.1 k x), fun k x y => (g.2.2.1 k x y).trans (h.2.2.1 k x y), fun l x => (g.2.2.2.1 l x).trans (h.2.2.2.1 l x), fun k x => (g.2.2.2.2.1 k x).trans (h.2.2.2.2.1 k x), g.2.2.2.2.2.trans h.2.2.2.2.2⟩
set_option maxHeartbeats 4000000 in
theorem frN_rel {t : Nat} {C C1 : kM} (h : relC C C1) : frN t C C1 := by
  have q : ∀ l, gq C1 l = gq C l := fun l => by unfold gq; rw [h.2.2]
  refine ⟨fun l x _ _ => h.1 l x, fun k _ => by rw [h.1 (lTm t) (by simp)], h.2.1, fun l _ => q l, fun k _ => by rw [q], ?_⟩
  unfold go; rw [h.2.2]
set_option maxHeartbeats 4000000 in
theorem frN_tm {t k : Nat} {v : Int32} {C : kM} (h1 : 1 ≤ k) (h2 : k ≤ 8) : frN t C (sp C (lTm t) k v) := by
  refine ⟨fun l x y z => gp_sp_ne y, fun k' x => by simp (disch := omega) only [gp_ne, gpa_ne, gp_sp, gp_sa, upd_eq, upd_ne, gq_sp, gq_sa], fun k x y => by simp (disch := omega) only [gp_ne, gpa_ne, gp_sp, gp_sa, upd_eq, upd_ne, gq_sp, gq_sa], fun l _ => rfl, fun _ _ => rfl, rfl⟩
set_option maxHeartbeats 4000000 in
theorem frN_pk {t k : Nat} {v : Int32} {C : kM} : frN t C (sp C (lPk t) k v) := by
  refine ⟨fun l x y z => gp_sp_ne z, fun k' x => by simp (disch := omega) only [gp_ne, gpa_ne, gp_sp, gp_sa, upd_eq, upd_ne, gq_sp, gq_sa], fun k x y => by simp (disch := omega) only [gp_ne, gpa_ne, gp_sp, gp_sa, upd_eq, upd_ne, gq_sp, gq_sa], fun l _ => rfl, fun _ _ => rfl, rfl⟩
/-- what has been read of a term of this kind -/
def nmF (T : kT) (k t p p' : Nat) (C C' R : kM) : Prop :=
  ((k ≠ 1 → k ≠ 4 → k ≠ 7 → k ≠ 10 → gp C' (lTm t) 1 = gp C (lTm t) 1) ∧ (k ≠ 4 → k ≠ 10 → gp C' (lTm t) 2 = gp C (lTm t) 2) ∧ (k ≠ 1 → k ≠ 7 → k ≠ 10 → gp C' (lTm t) 3 = gp C (lTm t) 3) ∧ (k ≠ 0 → gq C' (lTm t) 6 = gq C (lTm t) 6)) ∧
  (k = 0 → p' = p + 1 ∧ ∃ j, j < T.1 ∧ wW R p = nI j ∧ gq C' (lTm t) 6 = some j) ∧
  (k = 1 → p' = p + 3 ∧ gp C' (lTm t) 1 = wW R p ∧ gp C' (lTm t) 3 = wW R (p + 1) ∧ okW 0 5 (wW R (p + 1)) ∧ gp C' (lTm t) 4 = wW R (p + 2)) ∧
  (k = 2 → ∃ w, 1 ≤ w ∧ w ≤ 8 ∧ wW R p = nI w ∧ p' = p + 1 + w ∧ gp C' (lTm t) 4 = nI w ∧ ∀ i, i < w → gp C' (lPk t) i = wW R (p + 1 + i)) ∧
  (k = 3 ∨ k = 5 ∨ k = 6 ∨ k = 9 → p' = p) ∧
  (k = 4 → p' = p + 2 ∧ gp C' (lTm t) 1 = wW R p ∧ gp C' (lTm t) 2 = wW R (p + 1)) ∧
  (k = 7 → p' = p + 2 ∧ gp C' (lTm t) 1 = wW R p ∧ gp C' (lTm t) 3 = wW R (p + 1) ∧ okW 0 1 (wW R (p + 1))) ∧
  (k = 8 → p' = p + 1 ∧ gp C' (lTm t) 4 = wW R p ∧ okW 0 100 (wW R p)) ∧
  (k = 10 → p' = p + 3 ∧ gp C' (lTm t) 1 = wW R p ∧ gp C' (lTm t) 3 = wW R (p + 1) ∧ okW 0 3 (wW R (p + 1)) ∧ gp C' (lTm t) 2 = wW R (p + 2))
