/-! what holds between two calls -/
def iTb (M : kM) (j : Nat) : Prop := ∃ w r, 1 ≤ w ∧ w ≤ 6 ∧ r ≤ 40 ∧ gp M (lTb j) 0 = nI w ∧ gp M (lMa 2) j = nI w ∧ gp M (lTb j) 4 = nI r ∧ gp M (lMa 4) j = nI r ∧ (∀ k c, k < r → c < w → gp M (lTc j) (k * w + c) = gp M (lMa 5) ((j * 40 + k) * 6 + c)) ∧ (∀ c, c < w → gp M (lTx j) c = gp M (lMa 3) (j * 6 + c))
def iSv (M : kM) (j : Nat) : Prop := ∃ w r, gp M (lTb j) 0 = nI w ∧ 1 ≤ w ∧ w ≤ 6 ∧ r ≤ 40 ∧ gp M (lTb j) 5 = nI r ∧ gp M (lMa 9) j = nI r ∧ (∀ k c, k < r → c < w → gp M (lTv j) (k * w + c) = gp M (lMa 10) ((j * 40 + k) * 6 + c))
def iA (T : kT) (M : kM) : Prop :=
  (gp M lTs 1 = nI T.1 ∧ gp M lMo 1 = nI T.1) ∧ (∀ j, j < T.1 → gq M lAl j = some j) ∧ (∀ j, j < T.1 → iTb M j) ∧
  (∀ j, T.1 ≤ j → j < 6 → gp M (lMa 4) j = 0 ∧ ∀ c, c < 6 → gp M (lMa 3) (j * 6 + c) = 0) ∧
  (gp M lTs 2 = gp M lMo 7 ∧ bl (gp M lMo 7)) ∧
  (gp M lMo 7 = 1 → (∃ k, k ≤ 120 ∧ gp M lTs 3 = nI k ∧ gp M lMo 8 = nI k) ∧ (∀ j, j < T.1 → iSv M j) ∧ (∀ j, T.1 ≤ j → j < 6 → gp M (lMa 9) j = 0))
def iB (M : kM) : Prop :=
  (∀ c, c < 6 → gp M lHa c = gp M (lMa 6) c) ∧
  (∃ n, n ≤ 60 ∧ gp M lRd 1 = nI n ∧ gp M lMo 11 = nI n ∧ ∀ k, k < n → gp M lWo k = gp M (lMa 12) k) ∧
  gp M lRd 2 = gp M lMo 14 ∧
  (∃ w, w ≤ 12 ∧ gp M lD 5 = nI w ∧ gp M lMo 31 = nI w ∧ ∀ c, c < w → gp M lLa c = gp M (lMa 30) c) ∧
  gp M lRu 1 = gp M lMo 24
def iQ (T : kT) (M : kM) : Prop := (gq M lD 6 = none ∧ gp M lMo 15 = 0) ∨ (gq M lD 6 = some 0 ∧ gp M lMo 15 = 1 ∧ ∃ S n, qS T S n M)
def iZ (T : kT) (M : kM) : Prop := T.1 ≤ 6 ∧ T.2 ≤ 60 ∧ (∀ i, i < T.2 → gq M lTe i = some i) ∧ (∀ i, T.2 ≤ i → gq M lTe i = none) ∧ kQl T M
def iNv (T : kT) (M : kM) : Prop := iA T M ∧ iB M ∧ iQ T M ∧ iZ T M
set_option maxHeartbeats 4000000 in
theorem iA_cg {T : kT} {M M' : kM} (h1 : gp M' lTs = gp M lTs) (h2 : ∀ a j, 11 ≤ a → a ≤ 14 → gp M' (a, j) = gp M (a, j)) (h3 : ∀ j, j = 2 ∨ j = 3 ∨ j = 4 ∨ j = 5 ∨ j = 9 ∨ j = 10 → gp M' (lMa j) = gp M (lMa j)) (h4 : gp M' lMo 1 = gp M lMo 1) (h5 : gp M' lMo 7 = gp M lMo 7) (h6 : gp M' lMo 8 = gp M lMo 8) (h7 : gq M' lAl = gq M lAl) (h : iA T M) : iA T M' := by
  unfold iA iTb iSv at *
  rw [h1, h4, h5, h6, h7, h3 2 (by omega), h3 3 (by omega), h3 4 (by omega), h3 5 (by omega), h3 9 (by omega), h3 10 (by omega)]
  obtain ⟨a, b, c, d, e, f⟩ := h
  refine ⟨a, b, fun j hj => ?_, d, e, fun g => ⟨(f g).1, fun j hj => ?_, (f g).2.2⟩⟩
  · have := c j hj
    rw [h2 11 j (by omega) (by omega), h2 12 j (by omega) (by omega), h2 13 j (by omega) (by omega)]
    exact this
  · have := (f g).2.1 j hj
    rw [h2 11 j (by omega) (by omega), h2 14 j (by omega) (by omega)]
    exact this
set_option maxHeartbeats 4000000 in
theorem qS_cg {T : kT} {S : kS} {n : Nat} {M M' : kM} (h1 : ∀ a j, 11 ≤ a → a ≤ 20 → a ≠ 14 → a ≠ 12 → gp M' (a, j) = gp M (a, j)) (h2 : ∀ j, j ≠ 6 → j ≠ 12 → j ≠ 30 → gp M' (lMa j) = gp M (lMa j)) (h3 : gp M' lMo 36 = gp M lMo 36) (h4 : gp M' lMo 35 = gp M lMo 35) (h5 : ∀ i, gq M' (lTm i) = gq M (lTm i)) (h : qS T S n M) : qS T S n M' := by
  obtain ⟨a, b, c, d, e, f, g, i⟩ := h
  have hu : ∀ j, (j ≠ 6 ∧ j ≠ 12 ∧ j ≠ 30) → gp M' (lMa j) = gp M (lMa j) := fun j z => h2 j z.1 z.2.1 z.2.2
  refine ⟨a, ?_, ?_, d, e, ?_, by rw [h3]; exact g, fun z => ?_⟩
  · unfold sC at *
    refine ⟨b.1, b.2.1, fun t ht => ?_, fun j hj => ?_⟩
    · have := b.2.2.1 t ht
      rw [h1 15 t (by omega) (by omega) (by omega) (by omega), h5 t, h1 16 t (by omega) (by omega) (by omega) (by omega)]
      exact this
    · have := b.2.2.2 j hj
      rw [h1 11 j (by omega) (by omega) (by omega) (by omega), h1 13 j (by omega) (by omega) (by omega) (by omega)]
      exact this
  · unfold sR at *
    rw [hu 17 (by decide), hu 21 (by decide), hu 34 (by decide), hu 18 (by decide), hu 19 (by decide), hu 20 (by decide), hu 13 (by decide), hu 3 (by decide), hu 2 (by decide), hu 4 (by decide), hu 5 (by decide)]
    exact c
  · refine lv_congr a 10 0 e (fun k x y => ⟨fun z x y => h1 z k (by omega) y (by omega) (by omega), ?_⟩) f
    unfold rvE
    rw [hu 26 (by decide), hu 27 (by decide), hu 28 (by decide), hu 29 (by decide), hu 38 (by decide), hu 39 (by decide)]
    exact ⟨rfl, rfl, rfl, fun _ _ => rfl, fun _ _ => rfl, fun _ _ => rfl⟩
  · rw [h3] at z
    obtain ⟨s, s1, s2⟩ := i z
    refine ⟨s, by rw [h4]; exact s1, ?_⟩
    have : ∀ e t s, susp S M e t s → susp S M' e t s := by
      intro e
      induction e with
      | zero => intro t s z; exact z
      | succ e ih =>
        intro t s z
        rw [susp] at z ⊢
        unfold pas at *
        rw [hu 26 (by decide), hu 39 (by decide)]
        rcases z with z | z | z
        · exact Or.inl z
        · exact Or.inr (Or.inl ⟨z.1, ih _ _ z.2⟩)
        · exact Or.inr (Or.inr ⟨z.1, z.2.1, ih _ _ z.2.2⟩)
    exact this 10 0 s s2
set_option maxHeartbeats 4000000 in
theorem kQl_cg {T : kT} {M M' : kM} (h : ∀ l, gq M' l = gq M l) (g : kQl T M) : kQl T M' := by
  unfold kQl at *
  simp only [h]
  exact g
set_option maxHeartbeats 4000000 in
theorem iQ_cg {T : kT} {M M' : kM} (h1 : ∀ a j, 11 ≤ a → a ≤ 20 → a ≠ 14 → a ≠ 12 → gp M' (a, j) = gp M (a, j)) (h2 : ∀ j, j ≠ 6 → j ≠ 12 → j ≠ 30 → gp M' (lMa j) = gp M (lMa j)) (h3 : gp M' lMo 36 = gp M lMo 36) (h4 : gp M' lMo 35 = gp M lMo 35) (h5 : ∀ l, gq M' l = gq M l) (h6 : gp M' lMo 15 = gp M lMo 15) (h : iQ T M) : iQ T M' := by
  unfold iQ at *
  rw [h5, h6]
  rcases h with h | ⟨x, y, S, n, z⟩
  · exact Or.inl h
  · exact Or.inr ⟨x, y, S, n, qS_cg h1 h2 h3 h4 (fun i => h5 _) z⟩
set_option maxHeartbeats 4000000 in
theorem iZ_cg {T : kT} {M M' : kM} (h5 : ∀ l, gq M' l = gq M l) (h : iZ T M) : iZ T M' := by
  unfold iZ at *
  rw [h5]
  exact ⟨h.1, h.2.1, h.2.2.1, h.2.2.2.1, kQl_cg h5 h.2.2.2.2⟩
set_option maxHeartbeats 4000000 in
/-- the thrown number alone has changed, or the out array -/
theorem iNv_mo {T : kT} {M : kM} {k : Int32} (h : iNv T M) : iNv T (sp M lMo 0 k) := by
  obtain ⟨a, b, c, d⟩ := h
  refine ⟨iA_cg rfl (fun a j x y => by simp (disch := omega) only [gp_ne, gpa_ne, gp_sp, gp_sa, upd_eq, upd_ne, gq_sp, gq_sa]) (fun j _ => rfl) rfl rfl rfl rfl a, ?_, iQ_cg (fun a j x y _ _ => by simp (disch := omega) only [gp_ne, gpa_ne, gp_sp, gp_sa, upd_eq, upd_ne, gq_sp, gq_sa]) (fun j _ _ _ => rfl) rfl rfl (fun l => rfl) rfl c, iZ_cg (fun l => rfl) d⟩
  unfold iB at *
  simp (disch := omega) only [gp_ne, gpa_ne, gp_sp, gp_sa, upd_eq, upd_ne, gq_sp, gq_sa]
  exact b
set_option maxHeartbeats 4000000 in
theorem iNv_so {T : kT} {M : kM} {k : Nat} {v : Int64} (h : iNv T M) : iNv T (so M k v) := by
  obtain ⟨a, b, c, d⟩ := h
  exact ⟨iA_cg rfl (fun _ _ _ _ => rfl) (fun _ _ => rfl) rfl rfl rfl rfl a, b, iQ_cg (fun _ _ _ _ _ _ => rfl) (fun _ _ _ _ => rfl) rfl rfl (fun _ => rfl) rfl c, iZ_cg (fun _ => rfl) d⟩
/-! ints that come from the script: either small or out of every bound -/
set_option maxHeartbeats 4000000 in
theorem in_cases (x : Int32) (n : Nat) (hn : n < 2147483648) : (∃ k, k < n ∧ x = nI k) ∨ (x < 0 ∨ nI n ≤ x) := by
  by_cases h : x < 0
  · exact Or.inr (Or.inl h)
  · obtain ⟨j, hj, rfl⟩ := nI_of h
    by_cases q : j < n
    · exact Or.inl ⟨j, q, rfl⟩
    · exact Or.inr (Or.inr (by rw [pn_le hn hj]; omega))
set_option maxHeartbeats 4000000 in
theorem not_lt_of {x y : Int32} (h : y ≤ x) : ¬ x < y := by
  rw [Int32.lt_iff_toInt_lt]; rw [Int32.le_iff_toInt_le] at h; omega
set_option maxHeartbeats 4000000 in
theorem F95_in {T : kT} {n k : Nat} {M : kM} (hk : k < n) (hn : n < 2147483648) : F_95 T (nI k) 0 (nI n - 1) M = some (1, M) := by
  unfold F_95
  rw [if_neg (by rw [pn_neg (by omega)]; exact id), pn_subL _ (by omega), if_neg (by rw [pn_lt (by omega) (by omega)]; omega)]
set_option maxHeartbeats 4000000 in
theorem F95_out {T : kT} {n : Nat} {x : Int32} {M : kM} (hn : n < 2147483648) (h : x < 0 ∨ nI n ≤ x) : F_95 T x 0 (nI n - 1) M = some (0, M) := by
  unfold F_95
  by_cases q : x < 0
  · rw [if_pos q]
  · rw [if_neg q]
    have h := h.resolve_left q
    rw [if_pos]
    rw [Int32.lt_iff_toInt_lt]
    rw [Int32.le_iff_toInt_le, nI_toInt hn] at h
    by_cases z : n = 0
    · subst z
      have : (nI 0 - 1).toInt = -1 := by decide
      have hx : ¬ x.toInt < 0 := fun y => q (by rw [Int32.lt_iff_toInt_lt]; exact y)
      omega
    · rw [pn_subL _ (by omega), nI_toInt (by omega)]
      omega
