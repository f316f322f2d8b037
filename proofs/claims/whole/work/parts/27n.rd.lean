def preF (T : kT) (S : kS) (m k t p p1 p3 n3 d pp c sn : Nat) (C2 C R : kM) : Prop :=
  (d < 10 ∧ t < n3 ∧ n3 ≤ p3 ∧ k ≤ 10 ∧ p < p3) ∧
  (RS m p3 C R ∧ stT T n3 C ∧ gp R lMo 16 = nI n3 ∧ tbO T S C R ∧ dn S (t + 1) n3 C R) ∧
  (beg k t C2 ∧ nmF T k t (p + 1) p1 C2 C R ∧ gp C (lTm t) 0 = nI k ∧ wW R p = nI k ∧ p1 ≤ p3) ∧
  (gp R (lMa 17) t = nI p ∧ (d ≠ 0 → gp R (lMa 18) t = nI pp) ∧ (d = 0 → t = 0) ∧ gp R (lMa 32) d = nI t ∧ gp R (lMa 33) d = 0 ∧ (d ≠ 0 → gp R (lMa 33) (d - 1) = nI (c + 1))) ∧
  (k = 0 → gq C (lTm t) 7 = none ∧ gp R (lMa 19) t = -1 ∧ n3 = t + 1 ∧ p3 = p1) ∧
  (k ≠ 0 → gq C (lTm t) 7 = some (t + 1) ∧ gp R (lMa 19) t = nI (t + 1) ∧ t + 1 < n3 ∧ d + 1 < 10 ∧ hg S (t + 1) = 9 - (d + 1) ∧ par S (t + 1) = t) ∧
  (¬ (3 ≤ k ∧ k ≤ 5) → gq C (lTm t) 8 = none ∧ gp R (lMa 20) t = -1) ∧
  (k ≠ 0 → ¬ (3 ≤ k ∧ k ≤ 5) → en S (t + 1) + 1 = n3 ∧ p1 + wc S (t + 1) = p3) ∧
  (3 ≤ k ∧ k ≤ 5 → gq C (lTm t) 8 = some sn ∧ gp R (lMa 20) t = nI sn ∧ sn = en S (t + 1) + 1 ∧ sn < n3 ∧ hg S sn = 9 - (d + 1) ∧ par S sn = t ∧ en S sn + 1 = n3 ∧ p1 + wc S (t + 1) + wc S sn = p3)
set_option maxHeartbeats 4000000 in
/-- setting a term's fields leaves the store as it is -/
theorem stT_cg {T : kT} {n t : Nat} {C C' : kM} (hr : gp C' lRd 5 = gp C lRd 5) (hts : gp C' lTs 1 = gp C lTs 1) (hq : ∀ l, l ≠ lTm t → gq C' l = gq C l) (hq6 : ∀ j, gq C' (lTm t) 6 = some j → gq C (lTm t) 6 = some j ∨ j < T.1) (hq7 : ∀ j, gq C' (lTm t) 7 = some j → gq C (lTm t) 7 = some j ∨ j < T.2) (hq8 : ∀ j, gq C' (lTm t) 8 = some j → gq C (lTm t) 8 = some j ∨ j < T.2) (h : stT T n C) : stT T n C' := by
  obtain ⟨a, b, c, d, e, f, i, j, l⟩ := h
  refine ⟨a, b, c, by rw [hr]; exact d, by rw [hq lTe (by simp)]; exact e, by rw [hq lTe (by simp)]; exact f, ?_, by rw [hts]; exact j, by rw [hq lAl (by simp)]; exact l⟩
  obtain ⟨q1, q2, q3, q4⟩ := i
  refine ⟨by rw [hq lD (by simp)]; exact q1, by rw [hq lAl (by simp)]; exact q2, by rw [hq lTe (by simp)]; exact q3, fun i hi => ?_⟩
  by_cases z : i = t
  · subst z
    have := q4 i hi
    exact ⟨fun j hj => (hq6 j hj).elim (this.1 j) id, fun j hj => (hq7 j hj).elim (this.2.1 j) id, fun j hj => (hq8 j hj).elim (this.2.2 j) id⟩
  · rw [hq (lTm i) (by simpa using z)]; exact q4 i hi
set_option maxHeartbeats 4000000 in
theorem frT_tm {t k : Nat} {v : Int32} {C : kM} : frT t C (sp C (lTm t) k v) := ⟨fun l x y => gp_sp_ne (fun z => y (tmI z)), fun l x y => rfl, fun k x y z => by simp (disch := omega) only [gp_ne, gpa_ne, gp_sp, gp_sa, upd_eq, upd_ne, gq_sp, gq_sa], rfl⟩
set_option maxHeartbeats 4000000 in
theorem frT_tq {t k : Nat} {v : Option Nat} {C : kM} : frT t C (sq C (lTm t) k v) := ⟨fun l x y => rfl, fun l x y => gq_sq_ne (fun z => y (tmQ (Nat.le_refl _) z)), fun k x y z => rfl, rfl⟩
set_option maxHeartbeats 4000000 in
theorem frT_rd {t k : Nat} {v : Int32} {C : kM} (h : k = 2 ∨ k = 3 ∨ k = 5) : frT t C (sp C lRd k v) := ⟨fun l x y => gp_sp_ne x, fun l x y => rfl, fun k' x y z => by rw [gp_sp, upd_ne (by omega)], rfl⟩
set_option maxHeartbeats 4000000 in
theorem fin_kids {T : kT} {S : kS} {m k t p p1 p3 n3 d pp c sn : Nat} {C2 C R : kM} (h : preF T S m k t p p1 p3 n3 d pp c sn C2 C R) : kids T k t (if k = 0 then 0 else wd S (t + 1)) (if 3 ≤ k ∧ k ≤ 5 then wd S sn else 0) C R := by
  obtain ⟨⟨hd, htn, hnp, hk10, hpp⟩, ⟨hs, st, hu, tb, kid⟩, ⟨hb, nm, hk, hw, hp1⟩, ⟨r17, r18, d0, r32, r33, r33'⟩, k0, k1, nb, un, bi⟩ := h
  have m60 := hs.1
  have pm := hs.2.1
  have kd : ∀ f, t + 1 ≤ f → f < n3 → f < T.2 ∧ f < 60 ∧ gp C (lTm f) 9 = nI (wd S f) ∧ gp R (lMa 21) f = nI (wd S f) ∧ 1 ≤ wd S f ∧ wd S f ≤ 12 := fun f a b => by
    obtain ⟨x, y, z⟩ := kid f a b
    exact ⟨by have := st.2.2.1; omega, by omega, x.2.2.2.2.2.1, y.2.1, z.1.2.1, z.1.2.2.1⟩
  constructor
  · by_cases q : k = 0
    · obtain ⟨a1, a2, -⟩ := k0 q
      exact Or.inl ⟨q, if_pos q, a1, a2⟩
    · obtain ⟨a1, a2, a3, -⟩ := k1 q
      obtain ⟨b1, b2, b3, b4, b5⟩ := kd (t + 1) (Nat.le_refl _) a3
      exact Or.inr ⟨q, t + 1, a1, by rw [if_neg q]; exact ⟨b1, b2, b3, a2, b4, b5⟩⟩
  · by_cases q : 3 ≤ k ∧ k ≤ 5
    · obtain ⟨a1, a2, a3, a4, -⟩ := bi q
      have e1 := (kid (t + 1) (Nat.le_refl _) (k1 (by omega)).2.2.1).2.2.1.2.2.2.1
      obtain ⟨b1, b2, b3, b4, b5⟩ := kd sn (by omega) a4
      exact Or.inr ⟨q, sn, a1, by rw [if_pos q]; exact ⟨b1, b2, b3, a2, b4, b5⟩⟩
    · obtain ⟨a1, a2⟩ := nb q
      exact Or.inl ⟨q, if_neg q, a1, a2⟩
set_option maxHeartbeats 4000000 in
/-- the reference's end of a node -/
theorem fin_ref {T : kT} {S : kS} {m k t p p1 p3 n3 d pp c sn n : Nat} {g : Int32} {C2 C R : kM} (h : preF T S m k t p p1 p3 n3 d pp c sn C2 C R) (hl : F_119 T (nI t) (nI k) R = F_119_291 T (nI t) g (nI n) R) (hn : g = 1 → n < 1000) (hg : g = 0 ∨ g = 1) :
    let R0 := if g = 1 ∧ n ≤ 12 then sp R (lMa 21) t (nI n) else sp (sp R (lMa 21) t (nI n)) lMo 23 (nI p)
    Ii T (d + 1) R = Ii T d (if d = 0 then sp R0 (lMa 34) t (nI (n3 - 1)) else sp (sp R0 (lMa 34) t (nI (n3 - 1))) (lMa 33) (d - 1) (nI c)) := by
  obtain ⟨⟨hd, htn, hnp, hk10, hpp⟩, ⟨hs, st, hu, tb, kid⟩, ⟨hb, nm, hk, hw, hp1⟩, ⟨r17, r18, d0, r32, r33, r33'⟩, k0, k1, nb, un, bi⟩ := h
  have m60 := hs.1
  have pm := hs.2.1
  intro R0
  have e1 : F_119 T (nI t) (nI k) R = some ((), R0) := by
    rw [hl]
    exact lk_291 (by omega) r17 hs.2.2.2.2.2.2.2.1 hn hg
  have q32 : gp R0 (lMa 32) = gp R (lMa 32) := by
    show gp (if g = 1 ∧ n ≤ 12 then _ else _) (lMa 32) = _
    by_cases z : g = 1 ∧ n ≤ 12
    · rw [if_pos z]; simp (disch := omega) only [gp_ne, gpa_ne, gp_sp, gp_sa, upd_eq, upd_ne, gq_sp, gq_sa]
    · rw [if_neg z]; simp (disch := omega) only [gp_ne, gpa_ne, gp_sp, gp_sa, upd_eq, upd_ne, gq_sp, gq_sa]
  have q33 : gp R0 (lMa 33) = gp R (lMa 33) := by
    show gp (if g = 1 ∧ n ≤ 12 then _ else _) (lMa 33) = _
    by_cases z : g = 1 ∧ n ≤ 12
    · rw [if_pos z]; simp (disch := omega) only [gp_ne, gpa_ne, gp_sp, gp_sa, upd_eq, upd_ne, gq_sp, gq_sa]
    · rw [if_neg z]; simp (disch := omega) only [gp_ne, gpa_ne, gp_sp, gp_sa, upd_eq, upd_ne, gq_sp, gq_sa]
  have q16 : gp R0 lMo 16 = gp R lMo 16 := by
    show gp (if g = 1 ∧ n ≤ 12 then _ else _) lMo 16 = _
    by_cases z : g = 1 ∧ n ≤ 12
    · rw [if_pos z]; simp (disch := omega) only [gp_ne, gpa_ne, gp_sp, gp_sa, upd_eq, upd_ne, gq_sp, gq_sa]
    · rw [if_neg z]; simp (disch := omega) only [gp_ne, gpa_ne, gp_sp, gp_sa, upd_eq, upd_ne, gq_sp, gq_sa]
  exact i_pop (by omega) (by omega) hs.2.2.2.2.2.2.2.1 r33 r32 (f118_k (by omega) r17 (by omega) hw) e1 (by rw [q32]; exact r32) (by rw [q16]; exact hu) (by omega) c (fun d' hd' => by rw [q33]; have := r33' (by omega); rwa [show d - 1 = d' by omega] at this)
