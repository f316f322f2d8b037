/-! how class and reference stand to each other while a query runs -/
def kr (S : kS) (t : Nat) (C R : kM) : Prop := ∃ (m : Nat) (o : Nat → Nat), m ≤ 150 ∧ (kd S t = 10 → m ≤ 60 ∧ ∀ i, o i = i) ∧ gp C (lKp t) 2 = nI (wd S t) ∧ gp C (lKp t) 3 = nI m ∧ gp R (lMa 26) t = nI m ∧ ∀ i, i < m → o i < m ∧ gp C (lKo t) i = nI (o i) ∧ ∀ c, c < wd S t → gp C (lKc t) (o i * 12 + c) = gp R (lMa 27) (t * 1800 + i * 12 + c)
abbrev bl (v : Int32) : Prop := v = 0 ∨ v = 1
def nd (S : kS) (t : Nat) (C R : kM) : Prop :=
  (kd S t = 0 → ∃ p, p ≤ tr S (sc S t) ∧ gp C (lTm t) 12 = nI p ∧ gp R (lMa 38) t = nI p) ∧
  (ix S t = 1 → ∃ p p', p ≤ p' ∧ p' ≤ tr S (sc S (t + 1)) ∧ gp C (lTm t) 12 = nI p ∧ gp R (lMa 38) t = nI p' ∧ ∀ r, p ≤ r → r < p' → ce S (sc S (t + 1)) r (ch S t) ≠ vl S t) ∧
  (kd S t = 8 ∨ kd S t = 9 → gp C (lTm t) 12 = gp R (lMa 26) t) ∧
  (kd S t = 3 ∨ kd S t = 4 → gp C (lTm t) 13 = gp R (lMa 39) t) ∧
  (kd S t = 5 → gp C (lTm t) 14 = gp R (lMa 39) t) ∧
  (kd S t = 7 ∨ kd S t = 9 ∨ kd S t = 10 → gp C (lTm t) 15 = gp R (lMa 39) t) ∧
  bl (gp R (lMa 39) t) ∧
  (kd S t = 7 ∨ kd S t = 10 → ∃ p m, p ≤ m ∧ m ≤ 150 ∧ gp R (lMa 26) t = nI m ∧ gp C (lTm t) 12 = nI p ∧ gp R (lMa 38) t = nI p ∧ (gp R (lMa 39) t = 0 → p = 0)) ∧
  (kd S t = 6 ∨ kd S t = 7 ∨ kd S t = 10 → kr S t C R)
/-- live: what can still be asked -/
def lv (S : kS) (C R : kM) : Nat → Nat → Prop
  | 0, _ => False
  | e + 1, t => nd S t C R ∧
    ((kd S t = 1 ∧ ix S t = 0) ∨ kd S t = 2 ∨ kd S t = 6 ∨ kd S t = 8 → lv S C R e (t + 1)) ∧
    (kd S t = 7 ∨ kd S t = 9 ∨ kd S t = 10 → gp R (lMa 39) t = 0 → lv S C R e (t + 1)) ∧
    (kd S t = 3 ∨ kd S t = 4 → lv S C R e (t + 1) ∧ (gp R (lMa 39) t = 1 → lv S C R e (se S t) ∧ ∀ c, c < wd S (t + 1) → gp R (lMa 29) (t * 12 + c) = gp C (lRw (t + 1)) c)) ∧
    (kd S t = 5 → lv S C R e (se S t) ∧ (gp R (lMa 39) t = 0 → lv S C R e (t + 1)))
def al (S : kS) : Nat → Nat → Nat
  | 0, _ => 0
  | e + 1, t => if kd S t = 0 ∨ ix S t = 1 then 0 else if kd S t = 9 then 1 else if kd S t = 3 ∨ kd S t = 4 then al S e (t + 1) * al S e (se S t) else if kd S t = 5 then al S e (t + 1) + al S e (se S t) else al S e (t + 1)
def be (S : kS) : Nat → Nat → Nat
  | 0, _ => 0
  | e + 1, t => if kd S t = 0 ∨ ix S t = 1 then 1 else if kd S t = 9 then 0 else if kd S t = 3 ∨ kd S t = 4 then max (be S e (se S t)) (be S e (t + 1) * al S e (se S t)) else if kd S t = 5 then max (be S e (t + 1)) (be S e (se S t)) else be S e (t + 1)
abbrev gn (R : kM) (j t : Nat) : Nat := (gp R (lMa j) t).toNatClampNeg
/-- rows that can still come without fuel -/
def pA (S : kS) (R : kM) : Nat → Nat → Nat
  | 0, _ => 0
  | e + 1, t => if kd S t = 0 ∨ ix S t = 1 then 0 else if kd S t = 9 then (if gp R (lMa 39) t = 0 then 1 else 0) else if kd S t = 3 ∨ kd S t = 4 then pA S R e (t + 1) * al S e (se S t) + (if gp R (lMa 39) t = 0 then 0 else pA S R e (se S t)) else if kd S t = 5 then (if gp R (lMa 39) t = 0 then pA S R e (t + 1) else 0) + pA S R e (se S t)
    else if kd S t = 7 ∨ kd S t = 10 then (if gp R (lMa 39) t = 0 then gn R 26 t + pA S R e (t + 1) else gn R 26 t - gn R 38 t) else pA S R e (t + 1)
/-! frames -/
def rvE (k : Nat) (R R' : kM) : Prop := gp R' (lMa 26) k = gp R (lMa 26) k ∧ gp R' (lMa 38) k = gp R (lMa 38) k ∧ gp R' (lMa 39) k = gp R (lMa 39) k ∧ (∀ c, c < 12 → gp R' (lMa 28) (k * 12 + c) = gp R (lMa 28) (k * 12 + c)) ∧ (∀ c, c < 12 → gp R' (lMa 29) (k * 12 + c) = gp R (lMa 29) (k * 12 + c)) ∧ (∀ i, i < 1800 → gp R' (lMa 27) (k * 1800 + i) = gp R (lMa 27) (k * 1800 + i))
abbrev dy (j : Nat) : Prop := j = 26 ∨ j = 27 ∨ j = 28 ∨ j = 29 ∨ j = 38 ∨ j = 39
def frR (t e : Nat) (R R' : kM) : Prop := R'.2 = R.2 ∧ (∀ l : kLb, l.1 ≠ 10 → (l.1 ≠ 21 ∨ ¬ dy l.2) → gp R' l = gp R l) ∧ (∀ k, k ≠ 25 → k ≠ 35 → k ≠ 36 → k ≠ 37 → gp R' lMo k = gp R lMo k) ∧ (∀ k, (k < t ∨ e < k) → rvE k R R')
def frC (t e : Nat) (C C' : kM) : Prop := C'.2 = C.2 ∧ ∀ l : kLb, l.1 ≠ 7 → ¬ (15 ≤ l.1 ∧ l.1 ≤ 20 ∧ l.1 ≠ 16 ∧ t ≤ l.2 ∧ l.2 ≤ e) → gp C' l = gp C l
set_option maxHeartbeats 4000000 in
theorem rvE_refl (k : Nat) (R : kM) : rvE k R R := ⟨rfl, rfl, rfl, fun _ _ => rfl, fun _ _ => rfl, fun _ _ => rfl⟩
set_option maxHeartbeats 4000000 in
theorem rvE_trans {k : Nat} {A B C : kM} (h : rvE k A B) (g : rvE k B C) : rvE k A C :=
  ⟨g.1.trans h.1, g.2.1.trans h.2.1, g.2.2.1.trans h.2.2.1, fun c hc => (g.2.2.2.1 c hc).trans (h.2.2.2.1 c hc), fun c hc => (g.2.2.2.2.1 c hc).trans (h.2.2.2.2.1 c hc), fun c hc => (g.2.2.2.2.2 c hc).trans (h.2.2.2.2.2 c hc)⟩
set_option maxHeartbeats 4000000 in
theorem frR_refl (t e : Nat) (R : kM) : frR t e R R := ⟨rfl, fun _ _ _ => rfl, fun _ _ _ _ _ => rfl, fun k _ => rvE_refl k R⟩
set_option maxHeartbeats 4000000 in
theorem frR_trans {t e t1 e1 t2 e2 : Nat} {A B C : kM} (h : frR t1 e1 A B) (g : frR t2 e2 B C) (h1 : t ≤ t1) (h2 : t ≤ t2) (h3 : e1 ≤ e) (h4 : e2 ≤ e) : frR t e A C :=
  ⟨g.1.trans h.1, fun l a b => (g.2.1 l a b).trans (h.2.1 l a b), fun k a b c d => (g.2.2.1 k a b c d).trans (h.2.2.1 k a b c d), fun k hk => rvE_trans (h.2.2.2 k (by omega)) (g.2.2.2 k (by omega))⟩
set_option maxHeartbeats 4000000 in
theorem frC_refl (t e : Nat) (R : kM) : frC t e R R := ⟨rfl, fun _ _ _ => rfl⟩
set_option maxHeartbeats 4000000 in
theorem frC_trans {t e t1 e1 t2 e2 : Nat} {A B C : kM} (h : frC t1 e1 A B) (g : frC t2 e2 B C) (h1 : t ≤ t1) (h2 : t ≤ t2) (h3 : e1 ≤ e) (h4 : e2 ≤ e) : frC t e A C :=
  ⟨g.1.trans h.1, fun l a b => (g.2 l a (by omega)).trans (h.2 l a (by omega))⟩
set_option maxHeartbeats 4000000 in
theorem sR_fr {S : kS} {n t e : Nat} {R R' : kM} (g : frR t e R R') (h : sR S n R) : sR S n R' := by
  have q : ∀ j, ¬ dy j → gp R' (lMa j) = gp R (lMa j) := fun j hj => g.2.1 (lMa j) (by simp) (Or.inr hj)
  unfold sR at *
  rw [q 17 (by decide), q 21 (by decide), q 34 (by decide), q 18 (by decide), q 19 (by decide), q 20 (by decide), q 13 (by decide), q 3 (by decide), q 2 (by decide), q 4 (by decide), q 5 (by decide)]
  exact h
/-- the class's own frame with what it keeps of every term -/
def frS (T : kT) (S : kS) (n t e : Nat) (C C' : kM) : Prop := frC t e C C' ∧ sC T S n C'
set_option maxHeartbeats 4000000 in
theorem frR_mo {t e k : Nat} {v : Int32} {R : kM} (hk : k = 25 ∨ k = 35 ∨ k = 36 ∨ k = 37) : frR t e R (sp R lMo k v) :=
  ⟨rfl, fun l a b => gp_sp_ne (fun z => by rw [z] at a; exact a rfl), fun k' a b c d => by rw [gp_sp, upd_ne (by omega)], fun k _ => rvE_refl k R⟩
set_option maxHeartbeats 4000000 in
theorem frR_ma {t e j : Nat} {f : Nat → Int32} {R : kM} (hj : j = 26 ∨ j = 38 ∨ j = 39) (hf : ∀ i, i < t ∨ e < i → f i = gp R (lMa j) i) : frR t e R (sa R (lMa j) f) := by
  refine ⟨rfl, fun l a b => gp_sa_ne (fun z => ?_), fun k _ _ _ _ => rfl, fun k hk => ?_⟩
  · rw [z] at b; simp only [dy] at b; omega
  · rcases hj with rfl | rfl | rfl
    · exact ⟨hf k hk, rfl, rfl, fun _ _ => rfl, fun _ _ => rfl, fun _ _ => rfl⟩
    · exact ⟨rfl, hf k hk, rfl, fun _ _ => rfl, fun _ _ => rfl, fun _ _ => rfl⟩
    · exact ⟨rfl, rfl, hf k hk, fun _ _ => rfl, fun _ _ => rfl, fun _ _ => rfl⟩
set_option maxHeartbeats 4000000 in
theorem frR_mp {t e j k : Nat} {v : Int32} {R : kM} (hj : j = 26 ∨ j = 38 ∨ j = 39) (h1 : t ≤ k) (h2 : k ≤ e) : frR t e R (sp R (lMa j) k v) :=
  frR_ma hj (fun i hi => upd_ne (by omega))
set_option maxHeartbeats 4000000 in
theorem frR_mr {t e j : Nat} {f : Nat → Int32} {R : kM} (hj : j = 28 ∨ j = 29) (hf : ∀ i, i < t * 12 ∨ e * 12 + 12 ≤ i → f i = gp R (lMa j) i) : frR t e R (sa R (lMa j) f) := by
  refine ⟨rfl, fun l a b => gp_sa_ne (fun z => ?_), fun k _ _ _ _ => rfl, fun k hk => ?_⟩
  · rw [z] at b; simp only [dy] at b; omega
  · rcases hj with rfl | rfl
    · exact ⟨rfl, rfl, rfl, fun c hc => hf _ (by omega), fun _ _ => rfl, fun _ _ => rfl⟩
    · exact ⟨rfl, rfl, rfl, fun _ _ => rfl, fun c hc => hf _ (by omega), fun _ _ => rfl⟩
set_option maxHeartbeats 4000000 in
theorem frR_mk {t e : Nat} {f : Nat → Int32} {R : kM} (hf : ∀ i, i < t * 1800 ∨ e * 1800 + 1800 ≤ i → f i = gp R (lMa 27) i) : frR t e R (sa R (lMa 27) f) := by
  refine ⟨rfl, fun l a b => gp_sa_ne (fun z => ?_), fun k _ _ _ _ => rfl, fun k hk => ?_⟩
  · rw [z] at b; simp [dy] at b
  · exact ⟨rfl, rfl, rfl, fun _ _ => rfl, fun _ _ => rfl, fun c hc => hf _ (by omega)⟩
set_option maxHeartbeats 4000000 in
theorem frC_sa {t e a b : Nat} {f : Nat → Int32} {C : kM} (hj : a = 7 ∨ (15 ≤ a ∧ a ≤ 20 ∧ a ≠ 16 ∧ t ≤ b ∧ b ≤ e)) : frC t e C (sa C (a, b) f) :=
  ⟨rfl, fun l a' b' => gp_sa_ne (fun z => by rw [z] at a' b'; simp only at a' b'; omega)⟩
set_option maxHeartbeats 4000000 in
theorem frC_sp {t e a b k : Nat} {v : Int32} {C : kM} (hj : a = 7 ∨ (15 ≤ a ∧ a ≤ 20 ∧ a ≠ 16 ∧ t ≤ b ∧ b ≤ e)) : frC t e C (sp C (a, b) k v) := frC_sa hj
/-- a term's own part of the class's memory -/
def cvE (k : Nat) (C C' : kM) : Prop := ∀ a, 15 ≤ a → a ≤ 20 → gp C' (a, k) = gp C (a, k)
set_option maxHeartbeats 4000000 in
theorem cvE_fr {t e k : Nat} {C C' : kM} (h : frC t e C C') (hk : k < t ∨ e < k) : cvE k C C' := fun a h1 h2 => h.2 (a, k) (by simp only; omega) (by simp only; omega)
set_option maxHeartbeats 4000000 in
theorem nd_congr {S : kS} {t : Nat} {C C' R R' : kM} (hc : cvE t C C') (hr : rvE t R R') (hw : wd S t ≤ 12) (h : nd S t C R) : nd S t C' R' := by
  have c15 := hc 15 (by omega) (by omega)
  have c18 := hc 18 (by omega) (by omega)
  have c19 := hc 19 (by omega) (by omega)
  have c20 := hc 20 (by omega) (by omega)
  unfold nd at *
  rw [c15, hr.1, hr.2.1, hr.2.2.1]
  refine ⟨h.1, h.2.1, h.2.2.1, h.2.2.2.1, h.2.2.2.2.1, h.2.2.2.2.2.1, h.2.2.2.2.2.2.1, h.2.2.2.2.2.2.2.1, fun q => ?_⟩
  obtain ⟨m, o, h1, h2, h3, h4, h5, h6⟩ := h.2.2.2.2.2.2.2.2 q
  unfold kr
  rw [c18, c19, c20, hr.1]
  refine ⟨m, o, h1, h2, h3, h4, h5, fun i hi => ?_⟩
  obtain ⟨a, b, c⟩ := h6 i hi
  refine ⟨a, b, fun d hd => ?_⟩
  rw [c d hd]
  have := hr.2.2.2.2.2 (i * 12 + d) (by omega)
  rw [show t * 1800 + (i * 12 + d) = t * 1800 + i * 12 + d by omega] at this
  exact this.symm
set_option maxHeartbeats 4000000 in
theorem lv_congr {S : kS} {n : Nat} (hS : sOk S n) {C C' R R' : kM} : ∀ e t, t < n → (∀ k, t ≤ k → k ≤ en S t → cvE k C C' ∧ rvE k R R') → lv S C R e t → lv S C' R' e t := by
  intro e
  induction e with
  | zero => intro t _ _ h; exact h
  | succ e ih =>
    intro t ht hk h
    have hn := hS.2.2.2 t ht
    unfold nOk at hn
    obtain ⟨⟨a1, a2, a3, a4, a5, a6, a7, a8, a9⟩, b0, b1, b2, b3, -⟩ := hn
    have own := hk t (by omega) (by omega)
    rw [lv] at h ⊢
    obtain ⟨h0, h1, h2, h3, h4⟩ := h
    refine ⟨nd_congr own.1 own.2 a3 h0, fun q => ?_, fun q q2 => ?_, fun q => ?_, fun q => ?_⟩
    · have := b1 (by omega)
      exact ih _ (by omega) (fun k k1 k2 => hk k (by omega) (by omega)) (h1 q)
    · have := b1 (by omega)
      rw [own.2.2.2.1] at q2
      exact ih _ (by omega) (fun k k1 k2 => hk k (by omega) (by omega)) (h2 q q2)
    · have x1 := b1 (by omega)
      have x3 := b3 ⟨by omega, by omega⟩
      refine ⟨ih _ (by omega) (fun k k1 k2 => hk k (by omega) (by omega)) (h3 q).1, fun q2 => ?_⟩
      rw [own.2.2.2.1] at q2
      obtain ⟨y1, y2⟩ := (h3 q).2 q2
      refine ⟨ih _ (by omega) (fun k k1 k2 => hk k (by omega) (by omega)) y1, fun c hc => ?_⟩
      have z1 := own.2.2.2.2.2.1 c
      have hw1 := (hS.2.2.2 (t + 1) (by omega)).1.2.2.1
      have z2 := (hk (t + 1) (by omega) (by omega)).1 17 (by omega) (by omega)
      rw [z1 (by omega), z2]
      exact y2 c hc
    · have x1 := b1 (by omega)
      have x3 := b3 ⟨by omega, by omega⟩
      refine ⟨ih _ (by omega) (fun k k1 k2 => hk k (by omega) (by omega)) (h4 q).1, fun q2 => ?_⟩
      rw [own.2.2.2.1] at q2
      exact ih _ (by omega) (fun k k1 k2 => hk k (by omega) (by omega)) ((h4 q).2 q2)
set_option maxHeartbeats 4000000 in
theorem pA_congr {S : kS} {n : Nat} (hS : sOk S n) {R R' : kM} : ∀ e t, t < n → (∀ k, t ≤ k → k ≤ en S t → rvE k R R') → pA S R' e t = pA S R e t := by
  intro e
  induction e with
  | zero => intro t _ _; rfl
  | succ e ih =>
    intro t ht hk
    have hn := hS.2.2.2 t ht
    unfold nOk at hn
    obtain ⟨⟨a1, a2, a3, a4, a5, a6, a7, a8, a9⟩, b0, b1, b2, b3, -⟩ := hn
    have own := hk t (by omega) (by omega)
    rw [pA, pA]
    by_cases k0 : kd S t = 0 ∨ ix S t = 1
    · rw [if_pos k0, if_pos k0]
    rw [if_neg k0, if_neg k0]
    have x1 := b1 (by omega)
    have e1 := ih (t + 1) (by omega) (fun k k1 k2 => hk k (by omega) (by omega))
    rw [own.2.2.1, e1]
    by_cases k9 : kd S t = 9
    · rw [if_pos k9, if_pos k9]
    rw [if_neg k9, if_neg k9]
    unfold gn
    rw [own.1, own.2.1]
    by_cases kb : bin S t
    · have x3 := b3 kb
      have e2 := ih (se S t) (by omega) (fun k k1 k2 => hk k (by omega) (by omega))
      rw [e2]
    · have : ¬ (kd S t = 3 ∨ kd S t = 4) := by simp only [bin] at kb; omega
      have : ¬ (kd S t = 5) := by simp only [bin] at kb; omega
      simp only [*, if_false]
