/-! the law holds on every script -/
theorem inv0 : iNv (0, 0) M0 := by
  refine ⟨⟨⟨rfl, rfl⟩, fun j hj => absurd hj (Nat.not_lt_zero _), fun j hj => absurd hj (Nat.not_lt_zero _), fun j _ _ => ⟨rfl, fun c _ => rfl⟩, ⟨rfl, Or.inl rfl⟩, fun z => absurd z (by show ¬ (0 : Int32) = 1; decide)⟩, ⟨fun c _ => rfl, ⟨0, by omega, rfl, rfl, fun k hk => absurd hk (Nat.not_lt_zero _)⟩, rfl, ⟨0, by omega, rfl, rfl, fun k hk => absurd hk (Nat.not_lt_zero _)⟩, rfl⟩, Or.inl ⟨rfl, rfl⟩, by show (0 : Nat) ≤ 6; omega, by show (0 : Nat) ≤ 60; omega, fun i hi => absurd hi (Nat.not_lt_zero _), fun i _ => rfl, fun j hj => absurd hj (by show ¬ (none : Option Nat) = some j; simp), fun k j hj => absurd hj (by show ¬ (none : Option Nat) = some j; simp), fun k j hj => absurd hj (by show ¬ (none : Option Nat) = some j; simp), fun i hi => absurd hi (Nat.not_lt_zero _)⟩
theorem law_ok {G : kG} (hL : G.2.1 ≤ 2560) : ∃ Mz, F_156_23 G 0 (0, 0) M0 600989 7179658 = some (1, Mz) := by
  refine law_loop (fun h => c_prepare h) hL 512 0 (0, 0) M0 600989 7179658 (by omega) (by omega) inv0 ?_
  unfold bgt
  decide
