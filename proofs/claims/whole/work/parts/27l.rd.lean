/-! a node is closed -/
set_option maxHeartbeats 4000000 in
theorem okW_n {b : Nat} {x : Int32} (hb : b < 2147483648) (h : okW 0 (nI b) x) : ∃ c, c ≤ b ∧ x = nI c := by
  obtain ⟨j, hj, rfl⟩ := nI_of h.1
  exact ⟨j, by have := h.2; rwa [pn_le (by omega) (by omega)] at this, rfl⟩
def fldP (T : kT) (k t p n a b : Nat) (C R : kM) (c o h s : Nat) (pk : Nat → Nat) : Prop :=
  (gp C (lTm t) 1 = nI c ∧ gp C (lTm t) 2 = nI o ∧ gp C (lTm t) 3 = nI h ∧ h ≤ 5 ∧ (k ≠ 0 → gq C (lTm t) 6 = none)) ∧
  (k = 0 → gq C (lTm t) 6 = some s ∧ s < T.1 ∧ wW R (p + 1) = nI s) ∧
  (k = 1 → wW R (p + 1) = nI c ∧ c < a ∧ n = a ∧ wW R (p + 2) = nI h ∧ h ≤ 5 ∧ wW R (p + 3) = gp C (lTm t) 4) ∧
  (k = 2 → n ≤ 8 ∧ ∀ i, i < n → (wW R (p + (2 + i)) = nI (pk i) ∧ pk i < a) ∧ gp C (lPk t) i = nI (pk i)) ∧
  (k = 3 → n = a + b) ∧
  (k = 4 → n = a + b ∧ wW R (p + 1) = nI c ∧ c < a ∧ wW R (p + 2) = nI o ∧ o < b) ∧
  (k = 5 → n = a ∧ n = b) ∧ (k = 6 → n = a) ∧
  (k = 7 → n = a ∧ wW R (p + 1) = nI c ∧ c < a ∧ wW R (p + 2) = nI h ∧ h ≤ 1) ∧
  (k = 8 → n = a ∧ wW R (p + 1) = gp C (lTm t) 4) ∧ (k = 9 → n = 1) ∧
  (k = 10 → n = 2 ∧ wW R (p + 1) = nI c ∧ c < a ∧ wW R (p + 2) = nI h ∧ h ≤ 3 ∧ wW R (p + 3) = nI o ∧ o < a)
set_option maxHeartbeats 4000000 in
theorem fldE {T : kT} {k t p p1 n a b : Nat} {C2 C R : kM} (hk10 : k ≤ 10) (hn : n < 2147483648) (ha : a < 2147483648) (hb : beg k t C2) (nm : nmF T k t (p + 1) p1 C2 C R) (lk : k ≠ 0 → lkF k a b p n R) : ∃ c o h s pk, p1 = p + owN k n ∧ fldP T k t p n a b C R c o h s pk := by
  obtain ⟨b0, b1, b2, b3, b6, b7, b8⟩ := hb
  obtain ⟨⟨f1, f2, f3, f6⟩, n0, n1, n2, n3, n4, n7, n8, n10⟩ := nm
  have hk : k = 0 ∨ k = 1 ∨ k = 2 ∨ k = 3 ∨ k = 4 ∨ k = 5 ∨ k = 6 ∨ k = 7 ∨ k = 8 ∨ k = 9 ∨ k = 10 := by omega
  rw [b1] at f1
  rw [b2] at f2
  rw [b3] at f3
  rw [b6] at f6
  unfold fldP
  rcases hk with rfl | rfl | rfl | rfl | rfl | rfl | rfl | rfl | rfl | rfl | rfl
  · obtain ⟨e1, j, e2, e3, e4⟩ := n0 rfl
    refine ⟨0, 0, 0, j, fun _ => 0, e1, ⟨f1 (by decide) (by decide) (by decide) (by decide), f2 (by decide) (by decide), f3 (by decide) (by decide) (by decide), by decide, ?_⟩, fun _ => ⟨e4, e2, e3⟩, ?_, ?_, ?_, ?_, ?_, ?_, ?_, ?_, ?_, ?_⟩
    all_goals (intro z; exact absurd z (by decide))
  · obtain ⟨e1, e2, e3, e4, e5⟩ := n1 rfl
    obtain ⟨h, h5, eh⟩ := okW_n (b := 5) (by omega) e4
    obtain ⟨l1, c, l2, l3⟩ := (lk (by decide)).1 (Or.inl rfl)
    refine ⟨c, 0, h, 0, fun _ => 0, e1, ⟨by rw [e2]; exact l3, f2 (by decide) (by decide), by rw [e3]; exact eh, h5, fun _ => f6 (by decide)⟩, ?_, fun _ => ⟨l3, l2, l1, eh, h5, e5.symm⟩, ?_, ?_, ?_, ?_, ?_, ?_, ?_, ?_, ?_⟩
    all_goals (intro z; exact absurd z (by decide))
  · obtain ⟨w, w1, w8, e1, e2, e3, e4⟩ := n2 rfl
    obtain ⟨l1, l2⟩ := (lk (by decide)).2.1 rfl
    have hw : w = n := by
      have := e1.symm.trans l1
      rwa [pn_inj (by omega) (by omega)] at this
    subst hw
    have key : ∀ i, i < w → (wW R (p + (2 + i)) = nI ((wW R (p + (2 + i))).toNatClampNeg) ∧ (wW R (p + (2 + i))).toNatClampNeg < a) ∧ gp C (lPk t) i = nI ((wW R (p + (2 + i))).toNatClampNeg) := fun i hi => by
      obtain ⟨c, c1, c2⟩ := l2 i hi
      have e := e4 i hi
      rw [show p + 1 + 1 + i = p + 2 + i by omega, c2] at e
      rw [show p + (2 + i) = p + 2 + i by omega, c2, pn_nat (by omega)]
      exact ⟨⟨rfl, c1⟩, e⟩
    refine ⟨0, 0, 0, 0, fun i => (wW R (p + (2 + i))).toNatClampNeg, by rw [e2]; show p + 1 + 1 + w = p + (2 + w); omega, ⟨f1 (by decide) (by decide) (by decide) (by decide), f2 (by decide) (by decide), f3 (by decide) (by decide) (by decide), by decide, fun _ => f6 (by decide)⟩, ?_, ?_, fun _ => ⟨w8, key⟩, ?_, ?_, ?_, ?_, ?_, ?_, ?_, ?_⟩
    all_goals (intro z; exact absurd z (by decide))
  · refine ⟨0, 0, 0, 0, fun _ => 0, n3 (by decide), ⟨f1 (by decide) (by decide) (by decide) (by decide), f2 (by decide) (by decide), f3 (by decide) (by decide) (by decide), by decide, fun _ => f6 (by decide)⟩, ?_, ?_, ?_, fun _ => (lk (by decide)).2.2.1 rfl, ?_, ?_, ?_, ?_, ?_, ?_, ?_⟩
    all_goals (intro z; exact absurd z (by decide))
  · obtain ⟨e1, e2, e3⟩ := n4 rfl
    obtain ⟨l1, ⟨c, l2, l3⟩, o, l4, l5⟩ := (lk (by decide)).2.2.2.1 rfl
    refine ⟨c, o, 0, 0, fun _ => 0, e1, ⟨by rw [e2]; exact l3, by rw [e3]; exact l5, f3 (by decide) (by decide) (by decide), by decide, fun _ => f6 (by decide)⟩, ?_, ?_, ?_, ?_, fun _ => ⟨l1, l3, l2, l5, l4⟩, ?_, ?_, ?_, ?_, ?_, ?_⟩
    all_goals (intro z; exact absurd z (by decide))
  · obtain ⟨l1, l2⟩ := (lk (by decide)).2.2.2.2.1 rfl
    refine ⟨0, 0, 0, 0, fun _ => 0, n3 (by decide), ⟨f1 (by decide) (by decide) (by decide) (by decide), f2 (by decide) (by decide), f3 (by decide) (by decide) (by decide), by decide, fun _ => f6 (by decide)⟩, ?_, ?_, ?_, ?_, ?_, fun _ => ⟨l1, l1.trans l2⟩, ?_, ?_, ?_, ?_, ?_⟩
    all_goals (intro z; exact absurd z (by decide))
  · refine ⟨0, 0, 0, 0, fun _ => 0, n3 (by decide), ⟨f1 (by decide) (by decide) (by decide) (by decide), f2 (by decide) (by decide), f3 (by decide) (by decide) (by decide), by decide, fun _ => f6 (by decide)⟩, ?_, ?_, ?_, ?_, ?_, ?_, fun _ => (lk (by decide)).2.2.2.2.2.1 (Or.inl rfl), ?_, ?_, ?_, ?_⟩
    all_goals (intro z; exact absurd z (by decide))
  · obtain ⟨e1, e2, e3, e4⟩ := n7 rfl
    obtain ⟨h, h5, eh⟩ := okW_n (b := 1) (by omega) e4
    obtain ⟨l1, c, l2, l3⟩ := (lk (by decide)).1 (Or.inr rfl)
    refine ⟨c, 0, h, 0, fun _ => 0, e1, ⟨by rw [e2]; exact l3, f2 (by decide) (by decide), by rw [e3]; exact eh, by omega, fun _ => f6 (by decide)⟩, ?_, ?_, ?_, ?_, ?_, ?_, ?_, fun _ => ⟨l1, l3, l2, eh, h5⟩, ?_, ?_, ?_⟩
    all_goals (intro z; exact absurd z (by decide))
  · obtain ⟨e1, e2, e3⟩ := n8 rfl
    refine ⟨0, 0, 0, 0, fun _ => 0, e1, ⟨f1 (by decide) (by decide) (by decide) (by decide), f2 (by decide) (by decide), f3 (by decide) (by decide) (by decide), by decide, fun _ => f6 (by decide)⟩, ?_, ?_, ?_, ?_, ?_, ?_, ?_, ?_, fun _ => ⟨(lk (by decide)).2.2.2.2.2.1 (Or.inr rfl), e2.symm⟩, ?_, ?_⟩
    all_goals (intro z; exact absurd z (by decide))
  · refine ⟨0, 0, 0, 0, fun _ => 0, n3 (by decide), ⟨f1 (by decide) (by decide) (by decide) (by decide), f2 (by decide) (by decide), f3 (by decide) (by decide) (by decide), by decide, fun _ => f6 (by decide)⟩, ?_, ?_, ?_, ?_, ?_, ?_, ?_, ?_, ?_, fun _ => (lk (by decide)).2.2.2.2.2.2.1 rfl, ?_⟩
    all_goals (intro z; exact absurd z (by decide))
  · obtain ⟨e1, e2, e3, e4, e5⟩ := n10 rfl
    obtain ⟨h, h5, eh⟩ := okW_n (b := 3) (by omega) e4
    obtain ⟨l1, ⟨c, l2, l3⟩, o, l4, l5⟩ := (lk (by decide)).2.2.2.2.2.2.2 rfl
    refine ⟨c, o, h, 0, fun _ => 0, e1, ⟨by rw [e2]; exact l3, by rw [e5]; exact l5, by rw [e3]; exact eh, by omega, fun _ => f6 (by decide)⟩, ?_, ?_, ?_, ?_, ?_, ?_, ?_, ?_, ?_, ?_, fun _ => ⟨l1, l3, l2, eh, h5, l5, l4⟩⟩
    all_goals (intro z; exact absurd z (by decide))
