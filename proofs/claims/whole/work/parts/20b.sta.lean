/-! what is fixed while a query runs -/
abbrev kS : Type := (Nat → Nat → Nat) × (Nat → Nat → Nat → Int32)
abbrev kd (S : kS) (t : Nat) : Nat := S.1 0 t
abbrev en (S : kS) (t : Nat) : Nat := S.1 1 t
abbrev wd (S : kS) (t : Nat) : Nat := S.1 2 t
abbrev ch (S : kS) (t : Nat) : Nat := S.1 3 t
abbrev ot (S : kS) (t : Nat) : Nat := S.1 4 t
abbrev hw (S : kS) (t : Nat) : Nat := S.1 5 t
abbrev sc (S : kS) (t : Nat) : Nat := S.1 6 t
abbrev wc (S : kS) (t : Nat) : Nat := S.1 7 t
abbrev att (S : kS) (t : Nat) : Nat := S.1 8 t
abbrev par (S : kS) (t : Nat) : Nat := S.1 9 t
abbrev se (S : kS) (t : Nat) : Nat := S.1 10 t
abbrev tr (S : kS) (j : Nat) : Nat := S.1 11 j
abbrev tw (S : kS) (j : Nat) : Nat := S.1 12 j
abbrev ix (S : kS) (t : Nat) : Nat := S.1 13 t
abbrev ow (S : kS) (t : Nat) : Nat := S.1 15 t
abbrev hg (S : kS) (t : Nat) : Nat := S.1 16 t
abbrev nt (S : kS) : Nat := S.1 17 0
abbrev pk (S : kS) (t i : Nat) : Nat := S.1 (20 + i) t
abbrev vl (S : kS) (t : Nat) : Int32 := S.2 0 t 0
abbrev ce (S : kS) (j r c : Nat) : Int32 := S.2 1 j (r * 6 + c)
abbrev td (S : kS) (t i : Nat) : Int32 := S.2 2 t i
/-- two parts -/
abbrev bin (S : kS) (t : Nat) : Prop := 3 ≤ kd S t ∧ kd S t ≤ 5
def nOk (S : kS) (n t : Nat) : Prop :=
  (kd S t ≤ 10 ∧ 1 ≤ wd S t ∧ wd S t ≤ 12 ∧ t ≤ en S t ∧ en S t < n ∧ att S t + ow S t ≤ 60 ∧ 1 ≤ ow S t ∧ td S t 0 = nI (kd S t) ∧ ow S t ≤ wc S t ∧ 2 ≤ wc S t ∧ wc S t ≤ 60) ∧
  (kd S t = 0 → en S t = t ∧ ow S t = 2 ∧ td S t 1 = nI (sc S t) ∧ sc S t < nt S ∧ wd S t = tw S (sc S t) ∧ wc S t = 2) ∧
  (kd S t ≠ 0 → hg S (t + 1) < hg S t ∧ t + 1 < n ∧ par S (t + 1) = t ∧ en S (t + 1) ≤ en S t ∧ t + 1 ≤ en S (t + 1)) ∧
  (kd S t ≠ 0 → ¬ bin S t → en S t = en S (t + 1) ∧ wc S t = ow S t + wc S (t + 1)) ∧
  (bin S t → se S t = en S (t + 1) + 1 ∧ se S t < n ∧ hg S (se S t) < hg S t ∧ par S (se S t) = t ∧ en S t = en S (se S t) ∧ se S t ≤ en S (se S t) ∧ wc S t = ow S t + wc S (t + 1) + wc S (se S t)) ∧
  (kd S t = 1 → ow S t = 4 ∧ td S t 1 = nI (ch S t) ∧ ch S t < wd S (t + 1) ∧ wd S t = wd S (t + 1) ∧ td S t 2 = nI (hw S t) ∧ hw S t ≤ 5 ∧ td S t 3 = vl S t) ∧
  (kd S t = 2 → ow S t = 2 + wd S t ∧ wd S t ≤ 8 ∧ ∀ i, i < wd S t → td S t (2 + i) = nI (pk S t i) ∧ pk S t i < wd S (t + 1)) ∧
  (kd S t = 3 → wd S t = wd S (t + 1) + wd S (se S t)) ∧
  (kd S t = 4 → ow S t = 3 ∧ wd S t = wd S (t + 1) + wd S (se S t) ∧ td S t 1 = nI (ch S t) ∧ ch S t < wd S (t + 1) ∧ td S t 2 = nI (ot S t) ∧ ot S t < wd S (se S t)) ∧
  (kd S t = 5 → wd S t = wd S (t + 1) ∧ wd S t = wd S (se S t)) ∧
  (kd S t = 6 → wd S t = wd S (t + 1)) ∧
  (kd S t = 7 → ow S t = 3 ∧ wd S t = wd S (t + 1) ∧ td S t 1 = nI (ch S t) ∧ ch S t < wd S (t + 1) ∧ td S t 2 = nI (hw S t) ∧ hw S t ≤ 1) ∧
  (kd S t = 8 → ow S t = 2 ∧ wd S t = wd S (t + 1) ∧ td S t 1 = vl S t) ∧
  (kd S t = 9 → wd S t = 1) ∧
  (kd S t = 10 → ow S t = 4 ∧ wd S t = 2 ∧ td S t 1 = nI (ch S t) ∧ ch S t < wd S (t + 1) ∧ td S t 2 = nI (hw S t) ∧ hw S t ≤ 3 ∧ td S t 3 = nI (ot S t) ∧ ot S t < wd S (t + 1)) ∧
  (ix S t = if kd S t = 1 ∧ hw S t = 0 ∧ kd S (t + 1) = 0 ∧ ¬ td S t 4 = 0 then 1 else 0)
def sOk (S : kS) (n : Nat) : Prop := n ≤ 60 ∧ nt S ≤ 6 ∧ (∀ j, j < nt S → 1 ≤ tw S j ∧ tw S j ≤ 6 ∧ tr S j ≤ 40) ∧ (∀ t, t < n → nOk S n t)
/-- the reference's half -/
def sR (S : kS) (n : Nat) (M : kM) : Prop :=
  (∀ t, t < n → gp M (lMa 17) t = nI (att S t) ∧ gp M (lMa 21) t = nI (wd S t) ∧ gp M (lMa 34) t = nI (en S t)
    ∧ (t ≠ 0 → gp M (lMa 18) t = nI (par S t)) ∧ (kd S t ≠ 0 → gp M (lMa 19) t = nI (t + 1)) ∧ (bin S t → gp M (lMa 20) t = nI (se S t))
    ∧ (∀ i, i < ow S t → gp M (lMa 13) (att S t + i) = td S t i)
    ∧ (kd S t = 1 → kd S (t + 1) = 0 → gp M (lMa 3) (sc S (t + 1) * 6 + ch S t) = td S t 4)) ∧
  (∀ j, j < nt S → gp M (lMa 2) j = nI (tw S j) ∧ gp M (lMa 4) j = nI (tr S j) ∧ ∀ r c, r < tr S j → c < tw S j → gp M (lMa 5) ((j * 40 + r) * 6 + c) = ce S j r c)
/-- the class's half -/
def sC (T : kT) (S : kS) (n : Nat) (M : kM) : Prop :=
  n ≤ T.2 ∧ nt S ≤ T.1 ∧
  (∀ t, t < n → gp M (lTm t) 0 = nI (kd S t) ∧ gp M (lTm t) 1 = nI (ch S t) ∧ gp M (lTm t) 2 = nI (ot S t) ∧ gp M (lTm t) 3 = nI (hw S t) ∧ gp M (lTm t) 4 = vl S t ∧ gp M (lTm t) 9 = nI (wd S t)
    ∧ (kd S t ≠ 0 → gq M (lTm t) 7 = some (t + 1)) ∧ (bin S t → gq M (lTm t) 8 = some (se S t))
    ∧ (kd S t = 0 → gq M (lTm t) 6 = some (sc S t)) ∧ (kd S t = 1 → gq M (lTm t) 6 = if ix S t = 1 then some (sc S (t + 1)) else none)
    ∧ (kd S t = 0 → gq M (lTm t) 7 = none) ∧ (¬ bin S t → gq M (lTm t) 8 = none)
    ∧ (kd S t = 2 → ∀ i, i < wd S t → gp M (lPk t) i = nI (pk S t i))) ∧
  (∀ j, j < nt S → gp M (lTb j) 0 = nI (tw S j) ∧ gp M (lTb j) 4 = nI (tr S j) ∧ ∀ r c, r < tr S j → c < tw S j → gp M (lTc j) (r * tw S j + c) = ce S j r c)
set_option maxHeartbeats 4000000 in
/-- what may change in the reference while a query runs -/
theorem sR_mo {S : kS} {n k : Nat} {v : Int32} {M : kM} (h : sR S n M) : sR S n (sp M lMo k v) := h
set_option maxHeartbeats 4000000 in
theorem sR_ma {S : kS} {n j : Nat} {f : Nat → Int32} {M : kM} (hj : j = 26 ∨ j = 27 ∨ j = 28 ∨ j = 29 ∨ j = 38 ∨ j = 39) (h : sR S n M) : sR S n (sa M (lMa j) f) := by
  unfold sR at *
  rcases hj with rfl | rfl | rfl | rfl | rfl | rfl <;> exact h
set_option maxHeartbeats 4000000 in
theorem sR_mp {S : kS} {n j k : Nat} {v : Int32} {M : kM} (hj : j = 26 ∨ j = 27 ∨ j = 28 ∨ j = 29 ∨ j = 38 ∨ j = 39) (h : sR S n M) : sR S n (sp M (lMa j) k v) := sR_ma hj h
set_option maxHeartbeats 4000000 in
theorem sC_sa {T : kT} {S : kS} {n a b : Nat} {f : Nat → Int32} {M : kM} (hj : a = 7 ∨ (17 ≤ a)) (h : sC T S n M) : sC T S n (sa M (a, b) f) := by
  unfold sC at *
  refine ⟨h.1, h.2.1, ?_, ?_⟩
  · intro t ht
    have := h.2.2.1 t ht
    simp (disch := omega) only [gp_ne, gpa_ne, gp_sp, gp_sa, upd_eq, upd_ne, gq_sp, gq_sa]
    exact this
  · intro j hj
    have := h.2.2.2 j hj
    simp (disch := omega) only [gp_ne, gpa_ne, gp_sp, gp_sa, upd_eq, upd_ne, gq_sp, gq_sa]
    exact this
set_option maxHeartbeats 4000000 in
theorem sC_sp {T : kT} {S : kS} {n a b k : Nat} {v : Int32} {M : kM} (hj : a = 7 ∨ 17 ≤ a) (h : sC T S n M) : sC T S n (sp M (a, b) k v) := sC_sa hj h
set_option maxHeartbeats 4000000 in
theorem sC_tm {T : kT} {S : kS} {n b k : Nat} {v : Int32} {M : kM} (hj : 12 ≤ k) (h : sC T S n M) : sC T S n (sp M (lTm b) k v) := by
  unfold sC at *
  refine ⟨h.1, h.2.1, ?_, ?_⟩
  · intro t ht
    have := h.2.2.1 t ht
    by_cases hb : t = b
    · subst hb
      simp (disch := omega) only [gp_ne, gpa_ne, gp_sp, gp_sa, upd_eq, upd_ne, gq_sp, gq_sa]
      exact this
    · simp (disch := omega) only [gp_ne, gpa_ne, gp_sp, gp_sa, upd_eq, upd_ne, gq_sp, gq_sa]
      exact this
  · intro j hj
    have := h.2.2.2 j hj
    simp (disch := omega) only [gp_ne, gpa_ne, gp_sp, gp_sa, upd_eq, upd_ne, gq_sp, gq_sa]
    exact this
