set_option maxHeartbeats 4000000 in
theorem sC_cg {T : kT} {S : kS} {n : Nat} {M M' : kM} (h1 : ∀ a j, 11 ≤ a → a ≤ 16 → a ≠ 14 → a ≠ 12 → gp M' (a, j) = gp M (a, j)) (h5 : ∀ i, gq M' (lTm i) = gq M (lTm i)) (b : sC T S n M) : sC T S n M' := by
  unfold sC at *
  refine ⟨b.1, b.2.1, fun t ht => ?_, fun j hj => ?_⟩
  · have := b.2.2.1 t ht
    rw [h1 15 t (by omega) (by omega) (by omega) (by omega), h5 t, h1 16 t (by omega) (by omega) (by omega) (by omega)]
    exact this
  · have := b.2.2.2 j hj
    rw [h1 11 j (by omega) (by omega) (by omega) (by omega), h1 13 j (by omega) (by omega) (by omega) (by omega)]
    exact this
set_option maxHeartbeats 4000000 in
/-- after a step: the class's part is C's, the reference's R's -/
theorem step_inv {T : kT} {S : kS} {n f f' w : Nat} {M C' X R' M2 : kM} (h : iNv T M) (hC : frC 0 (en S 0) (sp M lRu 0 (nI f)) C') (hX1 : ∀ l : kLb, l.1 ≠ 0 → l.1 ≠ 8 → gp X l = gp C' l) (hX2 : ∀ l, l ≠ lD → gq X l = gq M l) (hR : frR 0 (en S 0) (sp (sp X lMo 0 0) lMo 25 (nI f)) R')
    (h2 : M2.2 = R'.2) (h3 : ∀ l : kLb, l ≠ lMo → l ≠ lMa 30 → gp M2 l = gp R' l) (h4 : ∀ k, k ≠ 15 → k ≠ 24 → k ≠ 31 → k ≠ 35 → k ≠ 36 → k ≠ 37 → gp M2 lMo k = gp R' lMo k)
    (hk : gp C' lRu 1 + nI f' = gp M lRu 1 + nI f) (h24 : gp M2 lMo 24 = (gp M lMo 24 + nI f) - nI f')
    (hw : w ≤ 12) (h5 : gp X lD 5 = nI w) (h31 : gp M2 lMo 31 = nI w) (hl : ∀ c, c < w → gp X lLa c = gp M2 (lMa 30) c)
    (hq : (gq X lD 6 = none ∧ gp M2 lMo 15 = 0) ∨ (gq X lD 6 = some 0 ∧ gp M2 lMo 15 = 1 ∧ ∃ S n, qS T S n M2)) : iNv T M2 := by
  obtain ⟨a, b, c, d⟩ := h
  have gX : ∀ l : kLb, l.1 ≠ 10 → l.1 ≠ 21 → gp M2 l = gp X l := fun l x y => by
    rw [h3 l (fun z => by rw [z] at x; exact x rfl) (fun z => by rw [z] at y; exact y rfl), hR.2.1 l x (Or.inl y), gp_sp_ne (fun z => by rw [z] at x; exact x rfl), gp_sp_ne (fun z => by rw [z] at x; exact x rfl)]
  have gM : ∀ l : kLb, l.1 ≠ 10 → l.1 ≠ 21 → l.1 ≠ 0 → l.1 ≠ 8 → l.1 ≠ 7 → (l.1 < 15 ∨ l.1 = 16) → gp M2 l = gp M l := fun l x y z u v w => by
    rw [gX l x y, hX1 l z u, hC.2 l v (by omega), gp_sp_ne (fun z => by rw [z] at v; exact v rfl)]
  have gMa : ∀ j, ¬ dy j → j ≠ 30 → gp M2 (lMa j) = gp M (lMa j) := fun j x y => by
    rw [h3 (lMa j) (by simp) (by simpa using y), hR.2.1 (lMa j) (by simp) (Or.inr x), gp_sp_ne (by simp), gp_sp_ne (by simp), hX1 (lMa j) (by simp) (by simp), hC.2 (lMa j) (by simp) (by simp only; omega), gp_sp_ne (by simp)]
  have gMo : ∀ k, k ≠ 0 → k ≠ 15 → k ≠ 24 → k ≠ 25 → k ≠ 31 → k ≠ 35 → k ≠ 36 → k ≠ 37 → gp M2 lMo k = gp M lMo k := fun k x0 x1 x2 x3 x4 x5 x6 x7 => by
    rw [h4 k x1 x2 x4 x5 x6 x7, hR.2.2.1 k x3 x5 x6 x7, gp_sp, upd_ne x3, gp_sp, upd_ne x0, hX1 lMo (by simp) (by simp), hC.2 lMo (by simp) (by simp only; omega), gp_sp_ne (by simp)]
  have gQ0 : ∀ l, gq M2 l = gq X l := fun l => by
    unfold gq
    rw [h2, hR.1]
    rfl
  have gQ : ∀ l, l ≠ lD → gq M2 l = gq M l := fun l x => by rw [gQ0, hX2 l x]
  refine ⟨?_, ?_, ?_, ?_⟩
  · exact iA_cg (gM lTs (by simp) (by simp) (by simp) (by simp) (by simp) (by simp)) (fun a j x y => gM (a, j) (by simp only; omega) (by simp only; omega) (by simp only; omega) (by simp only; omega) (by simp only; omega) (by simp only; omega)) (fun j hj => gMa j (by simp only [dy]; omega) (by omega)) (gMo 1 (by omega) (by omega) (by omega) (by omega) (by omega) (by omega) (by omega) (by omega)) (gMo 7 (by omega) (by omega) (by omega) (by omega) (by omega) (by omega) (by omega) (by omega)) (gMo 8 (by omega) (by omega) (by omega) (by omega) (by omega) (by omega) (by omega) (by omega)) (gQ lAl (by simp)) a
  · obtain ⟨b1, b2, b3, b4, b5⟩ := b
    refine ⟨?_, ?_, ?_, ⟨w, hw, ?_, h31, fun c hc => ?_⟩, ?_⟩
    · rw [gM lHa (by simp) (by simp) (by simp) (by simp) (by simp) (by simp), gMa 6 (by simp [dy]) (by omega)]; exact b1
    · rw [gM lRd (by simp) (by simp) (by simp) (by simp) (by simp) (by simp), gM lWo (by simp) (by simp) (by simp) (by simp) (by simp) (by simp), gMa 12 (by simp [dy]) (by omega), gMo 11 (by omega) (by omega) (by omega) (by omega) (by omega) (by omega) (by omega) (by omega)]; exact b2
    · rw [gM lRd (by simp) (by simp) (by simp) (by simp) (by simp) (by simp), gMo 14 (by omega) (by omega) (by omega) (by omega) (by omega) (by omega) (by omega) (by omega)]; exact b3
    · rw [gX lD (by simp) (by simp)]; exact h5
    · rw [gX lLa (by simp) (by simp)]; exact hl c hc
    · rw [gX lRu (by simp) (by simp), hX1 lRu (by simp) (by simp), h24, ← b5, ← hk, Int32.add_sub_cancel]
  · unfold iQ
    rw [gQ0]
    exact hq
  · unfold iZ at *
    rw [gQ lTe (by simp)]
    refine ⟨d.1, d.2.1, d.2.2.1, d.2.2.2.1, ?_⟩
    obtain ⟨q1, q2, q3, q4⟩ := d.2.2.2.2
    refine ⟨fun j hj => ?_, ?_, ?_, fun i hi => ?_⟩
    · rw [gQ0] at hj
      rcases hq with z | z
      · rw [z.1] at hj; cases hj
      · rw [z.1] at hj
        obtain ⟨S', n', z3⟩ := z.2.2
        cases hj
        exact Nat.lt_of_lt_of_le z3.2.2.2.2.1 z3.2.1.1
    · rw [gQ lAl (by simp)]; exact q2
    · rw [gQ lTe (by simp)]; exact q3
    · rw [gQ (lTm i) (by simp)]; exact q4 i hi
