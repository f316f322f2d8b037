/-- the tables as the reading sees them -/
def tbO (T : kT) (S : kS) (C R : kM) : Prop := T.1 ≤ 6 ∧ nt S = T.1 ∧ gp R lMo 1 = nI T.1 ∧ ∀ j, j < T.1 → gp C (lTb j) 0 = nI (tw S j) ∧ gp R (lMa 2) j = nI (tw S j) ∧ 1 ≤ tw S j ∧ tw S j ≤ 6 ∧ ∀ c, c < tw S j → gp C (lTx j) c = gp R (lMa 3) (j * 6 + c)
set_option maxHeartbeats 4000000 in
theorem tbO_cg {T T' : kT} {S S' : kS} {C C' R R' : kM} (hT : T'.1 = T.1) (hS : tagr S S') (h1 : ∀ j, gp C' (lTb j) = gp C (lTb j)) (h2 : ∀ j, gp C' (lTx j) = gp C (lTx j)) (h3 : gp R' lMo 1 = gp R lMo 1) (h4 : gp R' (lMa 2) = gp R (lMa 2)) (h5 : gp R' (lMa 3) = gp R (lMa 3)) (h : tbO T S C R) : tbO T' S' C' R' := by
  obtain ⟨a, b, c, d⟩ := h
  refine ⟨by omega, ?_, ?_, fun j hj => ?_⟩
  · rw [hT, ← b]; exact hS.2.1 0
  · rw [h3, hT]; exact c
  · have := d j (by omega)
    have e : tw S' j = tw S j := (hS.1 j).2
    rw [h1, h2, h4, h5, e]
    exact this
set_option maxHeartbeats 4000000 in
theorem tbO_fr {T T' : kT} {S S' : kS} {t t1 d : Nat} {C C' R R' : kM} (hT : T'.1 = T.1) (hS : tagr S S') (h1 : frT t C C') (h2 : frU t1 d R R') (h : tbO T S C R) : tbO T' S' C' R' :=
  tbO_cg hT hS (fun j => h1.1 (lTb j) (by simp) (by simp only; omega)) (fun j => h1.1 (lTx j) (by simp) (by simp only; omega)) (h2.2.2.1 1 (by decide) (by decide) (by decide)) (h2.2.1 (lMa 2) (by simp) (by simp)) (h2.2.1 (lMa 3) (by simp) (by simp)) h
set_option maxHeartbeats 4000000 in
theorem ndC_agr {S S' : kS} {lo hi k : Nat} {C : kM} (h : nOk S hi k) (ha : agr S S' lo hi) (h1 : lo ≤ k) (h2 : k < hi) (g : ndC S k C) : ndC S' k C := by
  have e := (ha k h1 h2).1
  have e2 := (ha k h1 h2).2
  have n1 : S.1 0 k = 1 → S'.1 6 (k + 1) = S.1 6 (k + 1) := fun z => by
    have := (h.2.2.1 (by show S.1 0 k ≠ 0; omega)).2.1
    exact (ha (k + 1) (by omega) this).1 6
  unfold ndC at *
  simp only [kd, en, wd, ch, ot, hw, sc, wc, att, par, se, ix, ow, hg, pk, vl, td, bin, e, e2] at *
  obtain ⟨a1, a2, a3, a4, a5, a6, a7, a8, a9, a10, a11⟩ := g
  exact ⟨a1, a2, a3, a4, a5, a6, a7, a8, a9, fun z => by rw [n1 z]; exact a10 z, a11⟩
set_option maxHeartbeats 4000000 in
theorem ndR_agr {S S' : kS} {lo hi k : Nat} {R : kM} (h : nOk S hi k) (ha : agr S S' lo hi) (h1 : lo ≤ k) (h2 : k < hi) (g : ndR S k R) : ndR S' k R := by
  have e := (ha k h1 h2).1
  have e2 := (ha k h1 h2).2
  have n1 : S.1 0 k = 1 → ∀ i, S'.1 i (k + 1) = S.1 i (k + 1) := fun z => by
    have := (h.2.2.1 (by show S.1 0 k ≠ 0; omega)).2.1
    exact (ha (k + 1) (by omega) this).1
  unfold ndR at *
  simp only [kd, en, wd, ch, ot, hw, sc, wc, att, par, se, ix, ow, hg, pk, vl, td, bin, e, e2] at *
  obtain ⟨a1, a2, a3, a4, a5, a6, a7, a8⟩ := g
  exact ⟨a1, a2, a3, a4, a5, a6, a7, fun z y => by rw [n1 z] at y; rw [n1 z]; exact a8 z y⟩
set_option maxHeartbeats 4000000 in
theorem ndC_cg {S : kS} {k : Nat} {C C' : kM} (h1 : gp C' (lTm k) = gp C (lTm k)) (h2 : gp C' (lPk k) = gp C (lPk k)) (h3 : gq C' (lTm k) = gq C (lTm k)) (g : ndC S k C) : ndC S k C' := by
  unfold ndC at *
  rw [h1, h2, h3]; exact g
set_option maxHeartbeats 4000000 in
theorem ndR_cg {S : kS} {k : Nat} {R R' : kM} (h : ∀ j, j = 17 ∨ j = 18 ∨ j = 19 ∨ j = 20 ∨ j = 21 ∨ j = 34 → gp R' (lMa j) k = gp R (lMa j) k) (h13 : gp R' (lMa 13) = gp R (lMa 13)) (h3 : gp R' (lMa 3) = gp R (lMa 3)) (g : ndR S k R) : ndR S k R' := by
  unfold ndR at *
  rw [h 17 (by omega), h 18 (by omega), h 19 (by omega), h 20 (by omega), h 21 (by omega), h 34 (by omega), h13, h3]; exact g
set_option maxHeartbeats 4000000 in
theorem look_all {T : kT} {S : kS} {k t p p1 a b : Nat} {C2 C R : kM} (hk10 : k ≤ 10) (ht : t < 60) (htT : t < T.2) (nm : nmF T k t (p + 1) p1 C2 C R) (hk : gp C (lTm t) 0 = nI k) (hq : gp R (lMa 17) t = nI p) (hp1 : p1 ≤ 60) (h : kids T k t a b C R) (ha : k ≠ 0 → 1 ≤ a) (ha12 : a ≤ 12) (hb12 : b ≤ 12) (tb : tbO T S C R) : Lok T k t a b p C R := by
  obtain ⟨-, n0, n1, n2, n3, n4, n7, n8, n10⟩ := nm
  have hkk : k = 0 ∨ k = 1 ∨ k = 2 ∨ k = 3 ∨ k = 4 ∨ k = 5 ∨ k = 6 ∨ k = 7 ∨ k = 8 ∨ k = 9 ∨ k = 10 := by omega
  rcases hkk with rfl | rfl | rfl | rfl | rfl | rfl | rfl | rfl | rfl | rfl | rfl
  · obtain ⟨e1, j, e2, e3, e4⟩ := n0 rfl
    obtain ⟨d1, d2, d3, d4, -⟩ := tb.2.2.2 j e2
    have ha0 : a = 0 := by
      rcases h.1 with z | z
      · exact z.2.1
      · exact absurd rfl z.1
    subst ha0
    exact look_0 ht htT tb.1 hk hq (by omega) h e2 e3 e4 d1 d2 d3 d4
  · obtain ⟨e1, e2, -⟩ := n1 rfl
    exact look_s (Or.inl rfl) ht htT hk hq (by omega) h (ha (by decide)) ha12 e2
  · obtain ⟨w, w1, w8, e1, e2, e3, e4⟩ := n2 rfl
    exact look_2 ht htT hk hq (by omega) h (ha (by decide)) ha12 w1 w8 e1 e3 e4
  · exact look_p (Or.inl rfl) ht htT hk h (ha (by decide)) ha12 hb12
  · obtain ⟨e1, e2, e3⟩ := n4 rfl
    exact look_4 ht htT hk hq (by omega) h (ha (by decide)) ha12 hb12 e2 e3
  · exact look_5 ht htT hk h (ha (by decide)) ha12 hb12
  · exact look_p (Or.inr (Or.inl rfl)) ht htT hk h (ha (by decide)) ha12 hb12
  · obtain ⟨e1, e2, -⟩ := n7 rfl
    exact look_s (Or.inr rfl) ht htT hk hq (by omega) h (ha (by decide)) ha12 e2
  · exact look_p (Or.inr (Or.inr (Or.inl rfl))) ht htT hk h (ha (by decide)) ha12 hb12
  · exact look_p (Or.inr (Or.inr (Or.inr rfl))) ht htT hk h (ha (by decide)) ha12 hb12
  · obtain ⟨e1, e2, e3, e4, e5⟩ := n10 rfl
    exact look_10 ht htT hk hq (by omega) h (ha (by decide)) ha12 e2 e5
set_option maxHeartbeats 4000000 in
theorem f118_k {T : kT} {t p k : Nat} {R : kM} (ht : t < 60) (hq : gp R (lMa 17) t = nI p) (hp : p < 60) (hw : wW R p = nI k) : F_118 T (nI t) R = some (nI k, R) := by
  unfold F_118
  rw [show F_117 T (nI t) 0 R = some (wW R (p + 0), R) from r_told (i := 0) ht hq (by omega), kBd_s]
  rw [Nat.add_zero, hw]
