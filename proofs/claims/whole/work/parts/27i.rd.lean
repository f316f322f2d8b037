/-! the static picture grows with the reading -/
def stSN (S : kS) (t : Nat) (f : Nat → Nat) (g : Nat → Nat → Int32) : kS := (fun i k => if k = t ∧ i ≠ 11 ∧ i ≠ 12 ∧ i ≠ 17 then f i else S.1 i k, fun i k x => if k = t ∧ i ≠ 1 then g i x else S.2 i k x)
def agr (S S' : kS) (lo hi : Nat) : Prop := ∀ k, lo ≤ k → k < hi → (∀ i, S'.1 i k = S.1 i k) ∧ ∀ i x, S'.2 i k x = S.2 i k x
def tagr (S S' : kS) : Prop := (∀ j, S'.1 11 j = S.1 11 j ∧ S'.1 12 j = S.1 12 j) ∧ (∀ j, S'.1 17 j = S.1 17 j) ∧ ∀ j x, S'.2 1 j x = S.2 1 j x
set_option maxHeartbeats 4000000 in
theorem agr_refl (S : kS) (lo hi : Nat) : agr S S lo hi := fun _ _ _ => ⟨fun _ => rfl, fun _ _ => rfl⟩
set_option maxHeartbeats 4000000 in
theorem tagr_refl (S : kS) : tagr S S := ⟨fun _ => ⟨rfl, rfl⟩, fun _ => rfl, fun _ _ => rfl⟩
set_option maxHeartbeats 4000000 in
theorem tagr_trans {A B C : kS} (h : tagr A B) (g : tagr B C) : tagr A C := ⟨fun j => ⟨(g.1 j).1.trans (h.1 j).1, (g.1 j).2.trans (h.1 j).2⟩, fun j => (g.2.1 j).trans (h.2.1 j), fun j x => (g.2.2 j x).trans (h.2.2 j x)⟩
set_option maxHeartbeats 4000000 in
theorem agr_trans {A B C : kS} {lo hi lo1 hi1 : Nat} (h : agr A B lo hi) (g : agr B C lo1 hi1) (h1 : lo1 ≤ lo) (h2 : hi ≤ hi1) : agr A C lo hi := fun k a b => ⟨fun i => ((g k (by omega) (by omega)).1 i).trans ((h k a b).1 i), fun i x => ((g k (by omega) (by omega)).2 i x).trans ((h k a b).2 i x)⟩
set_option maxHeartbeats 4000000 in
theorem stSN_tagr (S : kS) (t : Nat) (f : Nat → Nat) (g : Nat → Nat → Int32) : tagr S (stSN S t f g) := by
  refine ⟨fun j => ⟨?_, ?_⟩, fun j => ?_, fun j x => ?_⟩
  · exact if_neg (fun z => z.2.1 rfl)
  · exact if_neg (fun z => z.2.2.1 rfl)
  · exact if_neg (fun z => z.2.2.2 rfl)
  · exact if_neg (fun z => z.2 rfl)
set_option maxHeartbeats 4000000 in
theorem stSN_agr (S : kS) (t : Nat) (f : Nat → Nat) (g : Nat → Nat → Int32) {lo hi : Nat} (h : hi ≤ t ∨ t < lo) : agr S (stSN S t f g) lo hi := fun k a b => ⟨fun i => if_neg (fun z => by omega), fun i x => if_neg (fun z => by omega)⟩
set_option maxHeartbeats 4000000 in
theorem stSN_1 (S : kS) (t i : Nat) (f : Nat → Nat) (g : Nat → Nat → Int32) (h : i ≠ 11 ∧ i ≠ 12 ∧ i ≠ 17) : (stSN S t f g).1 i t = f i := if_pos ⟨rfl, h⟩
set_option maxHeartbeats 4000000 in
theorem stSN_2 (S : kS) (t i x : Nat) (f : Nat → Nat) (g : Nat → Nat → Int32) (h : i ≠ 1) : (stSN S t f g).2 i t x = g i x := if_pos ⟨rfl, h⟩
set_option maxHeartbeats 4000000 in
theorem nOk_mono {S : kS} {n n' k : Nat} (h : nOk S n k) (hn : n ≤ n') : nOk S n' k := by
  obtain ⟨a, b, c, d, e, f⟩ := h
  refine ⟨⟨a.1, a.2.1, a.2.2.1, a.2.2.2.1, by have := a.2.2.2.2.1; omega, a.2.2.2.2.2⟩, b, fun z => ?_, d, fun z => ?_, f⟩
  · have := c z; exact ⟨this.1, by omega, this.2.2⟩
  · have := e z; exact ⟨this.1, by omega, this.2.2⟩
set_option maxHeartbeats 4000000 in
theorem nOk_agr {S S' : kS} {lo hi k : Nat} (h : nOk S hi k) (ha : agr S S' lo hi) (ht : tagr S S') (h1 : lo ≤ k) (h2 : k < hi) : nOk S' hi k := by
  have e := (ha k h1 h2).1
  have e2 := (ha k h1 h2).2
  have n1 : kd S k ≠ 0 → ∀ i, S'.1 i (k + 1) = S.1 i (k + 1) := fun z => by
    have := (h.2.2.1 z).2.1
    exact (ha (k + 1) (by omega) this).1
  have n2 : bin S k → ∀ i, S'.1 i (S.1 10 k) = S.1 i (S.1 10 k) := fun z => by
    have h3 := h.2.2.2.2.1 z
    have h4 := h.2.2.1 (by have := z.1; omega)
    exact (ha (se S k) (by have := h3.1; have := h4.2.2.2.2; omega) h3.2.1).1
  obtain ⟨a, b, c, d, f, g1, g2, g3, g4, g5, g6, g7, g8, g9, g10, g11⟩ := h
  unfold nOk
  simp only [kd, en, wd, ch, ot, hw, sc, wc, att, par, se, ix, ow, hg, pk, vl, td, bin, nt, tw, e, e2, (ht.2.1 0), fun j => (ht.1 j).2] at *
  refine ⟨a, b, fun z => ?_, fun z y => ?_, fun z => ?_, fun z => ?_, fun z => ?_, fun z => ?_, fun z => ?_, fun z => ?_, fun z => ?_, fun z => ?_, fun z => ?_, fun z => ?_, fun z => ?_, ?_⟩
  · simp only [n1 z]; exact c z
  · simp only [n1 z]; exact d z y
  · simp only [n1 (by omega), n2 z]; exact f z
  · simp only [n1 (by omega)]; exact g1 z
  · simp only [n1 (by omega)]; exact g2 z
  · simp only [n1 (by omega), n2 (by omega)]; exact g3 z
  · simp only [n1 (by omega), n2 (by omega)]; exact g4 z
  · simp only [n1 (by omega), n2 (by omega)]; exact g5 z
  · simp only [n1 (by omega)]; exact g6 z
  · simp only [n1 (by omega)]; exact g7 z
  · simp only [n1 (by omega)]; exact g8 z
  · exact g9 z
  · simp only [n1 (by omega)]; exact g10 z
  · rw [g11]
    by_cases z : S.1 0 k = 1
    · simp only [n1 (by omega)]
    · rw [if_neg (fun y => z y.1), if_neg (fun y => z y.1)]
/-- what the class's memory says of one term -/
def ndC (S : kS) (t : Nat) (M : kM) : Prop := gp M (lTm t) 0 = nI (kd S t) ∧ gp M (lTm t) 1 = nI (ch S t) ∧ gp M (lTm t) 2 = nI (ot S t) ∧ gp M (lTm t) 3 = nI (hw S t) ∧ gp M (lTm t) 4 = vl S t ∧ gp M (lTm t) 9 = nI (wd S t)
    ∧ (kd S t ≠ 0 → gq M (lTm t) 7 = some (t + 1)) ∧ (bin S t → gq M (lTm t) 8 = some (se S t))
    ∧ (kd S t = 0 → gq M (lTm t) 6 = some (sc S t)) ∧ (kd S t = 1 → gq M (lTm t) 6 = if ix S t = 1 then some (sc S (t + 1)) else none)
    ∧ (kd S t = 0 → gq M (lTm t) 7 = none) ∧ (¬ bin S t → gq M (lTm t) 8 = none)
    ∧ (kd S t = 2 → ∀ i, i < wd S t → gp M (lPk t) i = nI (pk S t i))
/-- what the reference's says -/
def ndR (S : kS) (t : Nat) (M : kM) : Prop := gp M (lMa 17) t = nI (att S t) ∧ gp M (lMa 21) t = nI (wd S t) ∧ gp M (lMa 34) t = nI (en S t)
    ∧ (t ≠ 0 → gp M (lMa 18) t = nI (par S t)) ∧ (kd S t ≠ 0 → gp M (lMa 19) t = nI (t + 1)) ∧ (bin S t → gp M (lMa 20) t = nI (se S t))
    ∧ (∀ i, i < ow S t → gp M (lMa 13) (att S t + i) = td S t i)
    ∧ (kd S t = 1 → kd S (t + 1) = 0 → gp M (lMa 3) (sc S (t + 1) * 6 + ch S t) = td S t 4)
/-- terms lo .. hi - 1 have been read -/
def dn (S : kS) (lo hi : Nat) (C R : kM) : Prop := ∀ k, lo ≤ k → k < hi → ndC S k C ∧ ndR S k R ∧ nOk S hi k
set_option maxHeartbeats 4000000 in
theorem ndC_fr {S : kS} {t k : Nat} {C C' : kM} (h : frT t C C') (hk : k < t) (g : ndC S k C) : ndC S k C' := by
  have e1 : gp C' (lTm k) = gp C (lTm k) := h.1 (lTm k) (by simp) (by simp only; omega)
  have e2 : gp C' (lPk k) = gp C (lPk k) := h.1 (lPk k) (by simp) (by simp only; omega)
  have e3 : gq C' (lTm k) = gq C (lTm k) := h.2.1 (lTm k) (by simp) (by simp only; omega)
  unfold ndC at *
  rw [e1, e2, e3]
  exact g
/-- what reading one term from depth d on may change in the reference -/
def frU (t d : Nat) (R R' : kM) : Prop := R'.2 = R.2 ∧ (∀ l : kLb, l ≠ lMo → (l.1 ≠ 21 ∨ ¬ (l.2 = 17 ∨ l.2 = 18 ∨ l.2 = 19 ∨ l.2 = 20 ∨ l.2 = 21 ∨ l.2 = 32 ∨ l.2 = 33 ∨ l.2 = 34)) → gp R' l = gp R l) ∧ (∀ k, k ≠ 16 → k ≠ 22 → k ≠ 23 → gp R' lMo k = gp R lMo k) ∧ (∀ j, j = 17 ∨ j = 18 ∨ j = 19 ∨ j = 20 ∨ j = 21 ∨ j = 34 → ∀ k, k < t → gp R' (lMa j) k = gp R (lMa j) k) ∧ (∀ k, k < d → gp R' (lMa 32) k = gp R (lMa 32) k) ∧ (∀ k, k < d → gp R' (lMa 33) k = gp R (lMa 33) k)
set_option maxHeartbeats 4000000 in
theorem frU_refl (t d : Nat) (R : kM) : frU t d R R := ⟨rfl, fun _ _ _ => rfl, fun _ _ _ _ => rfl, fun _ _ _ _ => rfl, fun _ _ => rfl, fun _ _ => rfl⟩
set_option maxHeartbeats 4000000 in
theorem frU_trans {t d t1 d1 t2 d2 : Nat} {A B C : kM} (h : frU t1 d1 A B) (g : frU t2 d2 B C) (h1 : t ≤ t1) (h2 : t ≤ t2) (h3 : d ≤ d1) (h4 : d ≤ d2) : frU t d A C :=
  ⟨g.1.trans h.1, fun l x y => (g.2.1 l x y).trans (h.2.1 l x y), fun k x y z => (g.2.2.1 k x y z).trans (h.2.2.1 k x y z), fun j x k y => (g.2.2.2.1 j x k (by omega)).trans (h.2.2.2.1 j x k (by omega)), fun k x => (g.2.2.2.2.1 k (by omega)).trans (h.2.2.2.2.1 k (by omega)), fun k x => (g.2.2.2.2.2 k (by omega)).trans (h.2.2.2.2.2 k (by omega))⟩
set_option maxHeartbeats 4000000 in
theorem frU_rel {t d : Nat} {R R' : kM} (h : relR R R') : frU t d R R' := ⟨h.2.2, fun l x _ => h.1 l x, fun k _ y z => h.2.1 k y z, fun j _ k _ => by rw [h.1 (lMa j) (by simp)], fun k _ => by rw [h.1 (lMa 32) (by simp)], fun k _ => by rw [h.1 (lMa 33) (by simp)]⟩
set_option maxHeartbeats 4000000 in
theorem frU_mo {t d k : Nat} {v : Int32} {R : kM} (h : k = 16 ∨ k = 22 ∨ k = 23) : frU t d R (sp R lMo k v) := ⟨rfl, fun l x _ => gp_sp_ne x, fun k' a b c => by rw [gp_sp, upd_ne (by omega)], fun _ _ _ _ => rfl, fun _ _ => rfl, fun _ _ => rfl⟩
set_option maxHeartbeats 4000000 in
theorem frU_ma {t d j k : Nat} {v : Int32} {R : kM} (h : (j = 17 ∨ j = 18 ∨ j = 19 ∨ j = 20 ∨ j = 21 ∨ j = 34) ∧ t ≤ k ∨ (j = 32 ∨ j = 33) ∧ d ≤ k) : frU t d R (sp R (lMa j) k v) := by
  refine ⟨rfl, fun l x y => gp_sp_ne (fun z => ?_), fun k' a b c => by simp (disch := omega) only [gp_ne, gpa_ne, gp_sp, gp_sa, upd_eq, upd_ne, gq_sp, gq_sa], fun j' hj k' hk => ?_, fun k' hk => ?_, fun k' hk => ?_⟩
  · rw [z] at y; simp only at y; omega
  · by_cases q : j' = j
    · subst q
      rw [gp_sp, upd_ne (by omega)]
    · simp (disch := omega) only [gp_ne, gpa_ne, gp_sp, gp_sa, upd_eq, upd_ne, gq_sp, gq_sa]
  · by_cases q : j = 32
    · subst q; rw [gp_sp, upd_ne (by omega)]
    · simp (disch := omega) only [gp_ne, gpa_ne, gp_sp, gp_sa, upd_eq, upd_ne, gq_sp, gq_sa]
  · by_cases q : j = 33
    · subst q; rw [gp_sp, upd_ne (by omega)]
    · simp (disch := omega) only [gp_ne, gpa_ne, gp_sp, gp_sa, upd_eq, upd_ne, gq_sp, gq_sa]
set_option maxHeartbeats 4000000 in
theorem ndR_fr {S : kS} {t d k : Nat} {R R' : kM} (h : frU t d R R') (hk : k < t) (g : ndR S k R) : ndR S k R' := by
  have e := fun j hj => h.2.2.2.1 j hj k hk
  have e13 : gp R' (lMa 13) = gp R (lMa 13) := h.2.1 (lMa 13) (by simp) (by simp)
  have e3 : gp R' (lMa 3) = gp R (lMa 3) := h.2.1 (lMa 3) (by simp) (by simp)
  unfold ndR at *
  rw [e 17 (by omega), e 21 (by omega), e 34 (by omega), e 18 (by omega), e 19 (by omega), e 20 (by omega), e13, e3]
  exact g
