/-! how many rows can come: tables over the words of a term -/
def tAlL : List Nat := [0, 0, 0, 1, 1, 1, 1, 2, 2, 2, 2, 3, 3, 3, 3, 4, 4, 4, 4, 6, 6, 6, 6, 9, 9, 9, 9, 12, 12, 12, 12, 18, 18, 18, 18, 27, 27, 27, 27, 36, 36, 36, 36, 54, 54, 54, 54, 81, 81, 81, 81, 108, 108, 108, 108, 162, 162, 162, 162, 243, 243]
def tAl (w : Nat) : Nat := tAlL.getD w 0
def tBeL : List Nat := [0, 0, 1, 1, 1, 1, 1, 1, 1, 1, 2, 2, 2, 2, 3, 3, 3, 3, 4, 4, 4, 4, 6, 6, 6, 6, 9, 9, 9, 9, 12, 12, 12, 12, 18, 18, 18, 18, 27, 27, 27, 27, 36, 36, 36, 36, 54, 54, 54, 54, 81, 81, 81, 81, 108, 108, 108, 108, 162, 162, 162]
def tBe (w : Nat) : Nat := tBeL.getD w 0
def tAL : List Nat := [0, 0, 0, 1, 1, 150, 151, 151, 300, 301, 301, 450, 451, 451, 600, 602, 751, 900, 903, 1051, 1350, 1353, 1354, 1800, 1803, 1951, 2250, 2402, 2851, 3150, 3159, 3751, 4500, 4509, 4651, 5850, 6002, 6451, 7200, 7802, 9151, 9900, 10052, 11851, 13950, 14102, 14551, 18000, 18602, 19951, 22050, 24002, 28051, 30150, 30752, 36151, 42300, 42902, 44251, 54450, 56402]
def tA (w : Nat) : Nat := tAL.getD w 0
def tChk : Bool := (List.range 61).all fun a => (List.range 61).all fun b =>
  (decide (a < 60 → tAl a ≤ tAl (a + 1) ∧ tBe a ≤ tBe (a + 1) ∧ tA a ≤ tA (a + 1))) && decide (a + 3 ≤ 60 → 2 ≤ a → 150 + tA a ≤ tA (a + 3)) &&
  decide (2 ≤ a → 2 ≤ b → a + b + 1 ≤ 60 → tAl a * tAl b ≤ tAl (a + b + 1) ∧ tAl a + tAl b ≤ tAl (a + b + 1) ∧ tBe a ≤ tBe (a + b + 1) ∧ tBe b ≤ tBe (a + b + 1) ∧ tBe a * tAl b ≤ tBe (a + b + 1) ∧ tA a * tAl b + tA b ≤ tA (a + b + 1) ∧ tA a + tA b ≤ tA (a + b + 1))
set_option maxHeartbeats 4000000 in
theorem tChk_t : tChk = true := by decide +kernel
set_option maxHeartbeats 4000000 in
theorem tOne {a b : Nat} (ha : a < 61) (hb : b < 61) : ((decide (a < 60 → tAl a ≤ tAl (a + 1) ∧ tBe a ≤ tBe (a + 1) ∧ tA a ≤ tA (a + 1))) && decide (a + 3 ≤ 60 → 2 ≤ a → 150 + tA a ≤ tA (a + 3)) &&
  decide (2 ≤ a → 2 ≤ b → a + b + 1 ≤ 60 → tAl a * tAl b ≤ tAl (a + b + 1) ∧ tAl a + tAl b ≤ tAl (a + b + 1) ∧ tBe a ≤ tBe (a + b + 1) ∧ tBe b ≤ tBe (a + b + 1) ∧ tBe a * tAl b ≤ tBe (a + b + 1) ∧ tA a * tAl b + tA b ≤ tA (a + b + 1) ∧ tA a + tA b ≤ tA (a + b + 1))) = true := by
  have h := tChk_t
  unfold tChk at h
  rw [List.all_eq_true] at h
  have h := h a (List.mem_range.mpr ha)
  rw [List.all_eq_true] at h
  exact h b (List.mem_range.mpr hb)
set_option maxHeartbeats 4000000 in
theorem tUp {a : Nat} (ha : a < 60) : tAl a ≤ tAl (a + 1) ∧ tBe a ≤ tBe (a + 1) ∧ tA a ≤ tA (a + 1) := by
  have h := tOne (a := a) (b := 0) (by omega) (by omega)
  rw [Bool.and_eq_true, Bool.and_eq_true] at h
  exact of_decide_eq_true h.1.1 ha
set_option maxHeartbeats 4000000 in
theorem tMono : ∀ k {a : Nat}, a + k ≤ 60 → tAl a ≤ tAl (a + k) ∧ tBe a ≤ tBe (a + k) ∧ tA a ≤ tA (a + k)
  | 0, a, h => ⟨Nat.le_refl _, Nat.le_refl _, Nat.le_refl _⟩
  | k + 1, a, h => by
    have h1 := tMono k (a := a) (by omega)
    have h2 := tUp (a := a + k) (by omega)
    rw [show a + (k + 1) = a + k + 1 by omega]
    omega
set_option maxHeartbeats 4000000 in
theorem tLe {a b : Nat} (h : a ≤ b) (hb : b ≤ 60) : tAl a ≤ tAl b ∧ tBe a ≤ tBe b ∧ tA a ≤ tA b := by
  have := tMono (b - a) (a := a) (by omega)
  rwa [show a + (b - a) = b by omega] at this
set_option maxHeartbeats 4000000 in
theorem tSort {a b : Nat} (h2 : 2 ≤ a) (h : a + 3 ≤ b) (hb : b ≤ 60) : 150 + tA a ≤ tA b := by
  have h1 := tOne (a := a) (b := 0) (by omega) (by omega)
  rw [Bool.and_eq_true, Bool.and_eq_true] at h1
  have h3 := of_decide_eq_true h1.1.2 (by omega) h2
  have := tLe h hb
  omega
set_option maxHeartbeats 4000000 in
theorem tTwo {a b w : Nat} (h2 : 2 ≤ a) (h3 : 2 ≤ b) (h : a + b + 1 ≤ w) (hb : w ≤ 60) : tAl a * tAl b ≤ tAl w ∧ tAl a + tAl b ≤ tAl w ∧ tBe a ≤ tBe w ∧ tBe b ≤ tBe w ∧ tBe a * tAl b ≤ tBe w ∧ tA a * tAl b + tA b ≤ tA w ∧ tA a + tA b ≤ tA w := by
  have h1 := tOne (a := a) (b := b) (by omega) (by omega)
  rw [Bool.and_eq_true, Bool.and_eq_true] at h1
  have h4 := of_decide_eq_true h1.2 h2 h3 (by omega)
  have := tLe h hb
  omega
set_option maxHeartbeats 4000000 in
theorem ab_bd {S : kS} {n : Nat} (hS : sOk S n) : ∀ e t, t < n → al S e t ≤ tAl (wc S t) ∧ be S e t ≤ tBe (wc S t) := by
  intro e
  induction e with
  | zero => intro t _; exact ⟨Nat.zero_le _, Nat.zero_le _⟩
  | succ e ih =>
    intro t ht
    have hn := nk hS ht
    have a1 := hn.1
    rw [al, be]
    have q3 : tAl 3 = 1 := by decide
    have q2 : tBe 2 = 1 := by decide
    have m2 := tLe (a := 2) (b := wc S t) (by omega) (by omega)
    by_cases c0 : kd S t = 0 ∨ ix S t = 1
    · rw [if_pos c0, if_pos c0]; omega
    rw [if_neg c0, if_neg c0]
    have b1 := hn.2.2.1 (by omega)
    have i1 := ih (t + 1) (by omega)
    have w1 := (nk hS b1.2.1).1
    by_cases hb : bin S t
    · have b3 := hn.2.2.2.2.1 hb
      have i2 := ih (se S t) (by omega)
      have w2 := (nk hS b3.2.1).1
      have tt := tTwo (a := wc S (t + 1)) (b := wc S (se S t)) (w := wc S t) (by omega) (by omega) (by omega) (by omega)
      have k9 : ¬ kd S t = 9 := by have := hb.2; omega
      rw [if_neg k9, if_neg k9]
      have m1 := Nat.mul_le_mul i1.1 i2.1
      have m2 := Nat.mul_le_mul i1.2 i2.1
      by_cases c3 : kd S t = 3 ∨ kd S t = 4
      · rw [if_pos c3, if_pos c3]; omega
      rw [if_neg c3, if_neg c3]
      have c5 : kd S t = 5 := by have := hb.1; have := hb.2; omega
      rw [if_pos c5, if_pos c5]; omega
    · have b2 := hn.2.2.2.1 (by omega) hb
      have mm := tLe (a := wc S (t + 1)) (b := wc S t) (by omega) (by omega)
      by_cases c9 : kd S t = 9
      · rw [if_pos c9, if_pos c9]
        have := tLe (a := 3) (b := wc S t) (by omega) (by omega)
        omega
      rw [if_neg c9, if_neg c9]
      have c3 : ¬ (kd S t = 3 ∨ kd S t = 4) := by simp only [bin] at hb; omega
      have c5 : ¬ kd S t = 5 := by simp only [bin] at hb; omega
      rw [if_neg c3, if_neg c3, if_neg c5, if_neg c5]; omega
set_option maxHeartbeats 4000000 in
theorem pA_bd {S : kS} {n : Nat} {C R : kM} (hS : sOk S n) : ∀ e t, t < n → lv S C R e t → pA S R e t ≤ tA (wc S t) := by
  intro e
  induction e with
  | zero => intro t _ h; exact absurd h id
  | succ e ih =>
    intro t ht h
    have hn := nk hS ht
    have a1 := hn.1
    rw [lv] at h
    obtain ⟨h0, h1, h2, h3, h4⟩ := h
    rw [pA]
    by_cases c0 : kd S t = 0 ∨ ix S t = 1
    · rw [if_pos c0]; omega
    rw [if_neg c0]
    have hx := hn.2.2.2.2.2.2.2.2.2.2.2.2.2.2.2
    have ix0 : ix S t = 0 := by
      by_cases z : kd S t = 1 ∧ hw S t = 0 ∧ kd S (t + 1) = 0 ∧ ¬td S t 4 = 0
      · rw [if_pos z] at hx; omega
      · rw [if_neg z] at hx; exact hx
    have b1 := hn.2.2.1 (by omega)
    have w1 := (nk hS b1.2.1).1
    by_cases hb : bin S t
    · have b3 := hn.2.2.2.2.1 hb
      have w2 := (nk hS b3.2.1).1
      have tt := tTwo (a := wc S (t + 1)) (b := wc S (se S t)) (w := wc S t) (by omega) (by omega) (by omega) (by omega)
      have k9 : ¬ kd S t = 9 := by have := hb.2; omega
      rw [if_neg k9]
      by_cases c3 : kd S t = 3 ∨ kd S t = 4
      · rw [if_pos c3]
        have i1 := ih _ (by omega) (h3 c3).1
        have al2 := (ab_bd hS e (se S t) b3.2.1).1
        have mm := Nat.mul_le_mul i1 al2
        by_cases l0 : gp R (lMa 39) t = 0
        · rw [if_pos l0]; omega
        · rw [if_neg l0]
          have l1 : gp R (lMa 39) t = 1 := by rcases h0.2.2.2.2.2.2.1 with z | z; exact absurd z l0; exact z
          have i2 := ih _ (by omega) ((h3 c3).2 l1).1
          omega
      rw [if_neg c3]
      have c5 : kd S t = 5 := by have := hb.1; have := hb.2; omega
      rw [if_pos c5]
      have i2 := ih _ (by omega) (h4 c5).1
      by_cases l0 : gp R (lMa 39) t = 0
      · rw [if_pos l0]
        have i1 := ih _ (by omega) ((h4 c5).2 l0)
        omega
      · rw [if_neg l0]; omega
    · have b2 := hn.2.2.2.1 (by omega) hb
      have mm := tLe (a := wc S (t + 1)) (b := wc S t) (by omega) (by omega)
      have c3 : ¬ (kd S t = 3 ∨ kd S t = 4) := by simp only [bin] at hb; omega
      have c5 : ¬ kd S t = 5 := by simp only [bin] at hb; omega
      by_cases c9 : kd S t = 9
      · rw [if_pos c9]
        have := tLe (a := 3) (b := wc S t) (by omega) (by omega)
        have q3 : tA 3 = 1 := by decide
        by_cases l0 : gp R (lMa 39) t = 0
        · rw [if_pos l0]; omega
        · rw [if_neg l0]; omega
      rw [if_neg c9, if_neg c3, if_neg c5]
      by_cases c7 : kd S t = 7 ∨ kd S t = 10
      · rw [if_pos c7]
        obtain ⟨p, m, y1, y2, y3, y4, y5, y6⟩ := h0.2.2.2.2.2.2.2.1 c7
        have ow3 : 3 ≤ ow S t := by
          rcases c7 with c7 | c7
          · have := hn.2.2.2.2.2.2.2.2.2.2.2.1 c7; omega
          · have := hn.2.2.2.2.2.2.2.2.2.2.2.2.2.2.1 c7; omega
        have ts := tSort (a := wc S (t + 1)) (b := wc S t) (by omega) (by omega) (by omega)
        have gm : gn R 26 t = m := by unfold gn; rw [y3, pn_nat (by omega)]
        rw [gm]
        by_cases l0 : gp R (lMa 39) t = 0
        · rw [if_pos l0]
          have i1 := ih _ (by omega) (h2 (by omega) l0)
          omega
        · rw [if_neg l0]; omega
      · rw [if_neg c7]
        exact Nat.le_trans (ih _ (by omega) (h1 (by omega))) mm.2.2
set_option maxHeartbeats 4000000 in
theorem pot_bd {S : kS} {n e t f : Nat} {C R : kM} (hS : sOk S n) (ht : t < n) (h : lv S C R e t) (hf : f ≤ 500) : pA S R e t + be S e t * f ≤ 137402 := by
  have w := (nk hS ht).1
  have h1 := pA_bd hS e t ht h
  have h2 := (ab_bd hS e t ht).2
  have m := tLe (a := wc S t) (b := 60) (by omega) (by omega)
  have q1 : tA 60 = 56402 := by decide
  have q2 : tBe 60 = 162 := by decide
  have h3 : be S e t ≤ 162 := by omega
  have := Nat.mul_le_mul h3 hf
  omega
