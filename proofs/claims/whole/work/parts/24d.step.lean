set_option maxHeartbeats 4000000 in
theorem F140_go {T : kT} {f : Nat} {X : kM} (h1 : 1 ≤ f) (h5 : f ≤ 500) (hp : gp X lMo 15 = 1) : F_140 T (nI f) X = F_140_28 T (nI f) 0 X := by
  unfold F_140 F_95
  rw [if_neg (by simp (disch := omega) only [pn_mulL, pn_addL, pn_addR, pn_ltL, pn_ltR, pn_leL, pn_leR, pn_eqL, pn_eqR, pn_subL, pn_z, pn_add, pn_mul, pn_nat, pn_inj, pn_lt, pn_le, pn_neg, kGx_nI, kGx_L]; omega), if_neg (by simp (disch := omega) only [pn_mulL, pn_addL, pn_addR, pn_ltL, pn_ltR, pn_leL, pn_leR, pn_eqL, pn_eqR, pn_subL, pn_z, pn_add, pn_mul, pn_nat, pn_inj, pn_lt, pn_le, pn_neg, kGx_nI, kGx_L]; omega), kBd_s, if_neg (by decide), hp, if_neg (by decide)]
set_option maxHeartbeats 4000000 in
theorem c_step {T : kT} {M : kM} {x : Int32} (h : iNv T M) : ∃ k M1 b M2, F_155 T x M = some (k, M1) ∧ F_140 T x M1 = some (b, M2) ∧ gp M2 lMo 0 = k ∧ (k = 0 → go M2 0 = b.toInt64) ∧ iNv T M2 := by
  by_cases hx : x < 1 ∨ ¬ x ≤ 500
  · refine ⟨1, M, 0, sp M lMo 0 1, ?_, ?_, by simp (disch := omega) only [gp_ne, gpa_ne, gp_sp, gp_sa, upd_eq, upd_ne, gq_sp, gq_sa], fun z => absurd z (by decide), iNv_mo h⟩
    · unfold F_155 F_14 F_14_12
      by_cases q : x < 1
      · rw [if_pos q]; rfl
      · rw [if_neg q, if_neg (hx.resolve_left q)]; rfl
    · have r : gp (sp M lMo 0 1) lMo 0 = 1 := by simp (disch := omega) only [gp_ne, gpa_ne, gp_sp, gp_sa, upd_eq, upd_ne, gq_sp, gq_sa]
      unfold F_140 F_95 F_140_28
      by_cases q : x < 1
      · rw [if_pos q, kBd_s, if_pos rfl, r, if_neg (by decide)]
      · have : 500 < x := by
          have z := hx.resolve_left q
          rw [Int32.le_iff_toInt_le] at z
          rw [Int32.lt_iff_toInt_lt]; omega
        rw [if_neg q, if_pos this, kBd_s, if_pos rfl, r, if_neg (by decide)]
  · have hx1 : ¬ x < 1 := fun z => hx (Or.inl z)
    have hx2 : x ≤ 500 := Classical.byContradiction fun z => hx (Or.inr z)
    have x0 : ¬ x < 0 := fun z => hx1 (by rw [Int32.lt_iff_toInt_lt] at *; have : (0 : Int32).toInt = 0 := by decide
                                          have : (1 : Int32).toInt = 1 := by decide
                                          omega)
    obtain ⟨f, hf, rfl⟩ := nI_of x0
    have hf1 : 1 ≤ f := by rw [pn_ltL _ (by omega) (by omega)] at hx1; omega
    have hf5 : f ≤ 500 := by rw [pn_leL _ (by omega) (by omega)] at hx2; omega
    rcases h.2.2.1 with hq | ⟨q1, q2, S, n, q3⟩
    · refine ⟨2, M, 0, sp M lMo 0 2, ?_, ?_, by simp (disch := omega) only [gp_ne, gpa_ne, gp_sp, gp_sa, upd_eq, upd_ne, gq_sp, gq_sa], fun z => absurd z (by decide), iNv_mo h⟩
      · unfold F_155 F_14
        rw [if_neg hx1, if_pos hx2, hq.1]; rfl
      · have r : gp (sp M lMo 0 2) lMo 0 = 2 := by simp (disch := omega) only [gp_ne, gpa_ne, gp_sp, gp_sa, upd_eq, upd_ne, gq_sp, gq_sa]
        unfold F_140 F_95 F_140_28
        rw [if_neg hx1, if_neg (by simp (disch := omega) only [pn_mulL, pn_addL, pn_addR, pn_ltL, pn_ltR, pn_leL, pn_leR, pn_eqL, pn_eqR, pn_subL, pn_z, pn_add, pn_mul, pn_nat, pn_inj, pn_lt, pn_le, pn_neg, kGx_nI, kGx_L]; omega), kBd_s, if_neg (by decide), hq.2, if_pos rfl, r, if_neg (by decide)]
    · obtain ⟨a, C', e1, fC, sC', run⟩ := step_run q3 hf1 hf5
      have hS := q3.1
      have hn0 := q3.2.2.2.2.1
      have hw := (nk hS hn0).1.2.2.1
      have gC : ∀ l : kLb, l.1 ≠ 7 → (l.1 < 15 ∨ 20 < l.1 ∨ l.1 = 16) → gp C' l = gp M l := fun l x y => by
        rw [fC.2 l x (by omega), gp_sp_ne (fun z => by rw [z] at x; exact x rfl)]
      have qC : ∀ l, gq C' l = gq M l := fun l => by unfold gq; rw [fC.1]; rfl
      have go0 : ∀ l, gq M l = gq C' l := fun l => (qC l).symm
      have e14 : F_14 T (nI f) M = (if nI a = 1 then kBd (F_17 T (gq C' lD 6) C') (fun _ M10 => F_14_65 T (nI a) M10) else F_14_65 T (nI a) C') := by
        unfold F_14 F_47
        rw [if_neg hx1, if_pos hx2, q1, kOpt_s, e1, kBd_s, kBd_s]
      have hlast := h.2.1.2.2.2.1
      -- what the reference does from X
      have fin : ∀ (C1 : kM) (w : Nat), (∀ l : kLb, l.1 ≠ 0 → l.1 ≠ 8 → gp C1 l = gp C' l) → (∀ l, l ≠ lD → gq C1 l = gq M l) → F_14 T (nI f) M = some (.inr (nI a), C1) → w ≤ 12 → gp C1 lD 5 = nI w →
          (a = 1 → w = wd S 0 ∧ gq C1 lD 6 = some 0 ∧ ∀ c, c < w → gp C1 lLa c = gp C' (lRw 0) c) → (a ≠ 1 → gp M lMo 31 = nI w ∧ ∀ c, c < w → gp C1 lLa c = gp M (lMa 30) c) → (a = 2 → gq C1 lD 6 = some 0) → (a = 0 ∨ a = 3 → gq C1 lD 6 = none) →
          ∃ k M1 b M2, F_155 T (nI f) M = some (k, M1) ∧ F_140 T (nI f) M1 = some (b, M2) ∧ gp M2 lMo 0 = k ∧ (k = 0 → go M2 0 = b.toInt64) ∧ iNv T M2 := by
        intro C1 w c1 c2 c3 c4 c5 c6 c7 c8 c9
        have e155 : F_155 T (nI f) M = some (0, so C1 0 (nI a).toInt64) := by
          unfold F_155
          rw [c3]; rfl
        have xe : xE M (so C1 0 (nI a).toInt64) := by
          refine ⟨fun j => ?_, fun k hk => ?_⟩
          · rw [gp_so, c1 (lMa j) (by simp) (by simp), gC (lMa j) (by simp) (by simp)]
          · rw [gp_so, c1 lMo (by simp) (by simp), gC lMo (by simp) (by simp)]
        obtain ⟨R', f', f1, f2, f3, f4, post⟩ := run _ xe
        have hp15 : gp (so C1 0 (nI a).toInt64) lMo 15 = 1 := by rw [xe.2 15 (by omega)]; exact q2
        have e140 := F140_go (T := T) hf1 hf5 hp15
        have r0 : gp R' lMo 0 = 0 := by rw [f4.2.2.1 0 (by omega) (by omega) (by omega) (by omega)]; simp (disch := omega) only [gp_ne, gpa_ne, gp_sp, gp_sa, upd_eq, upd_ne, gq_sp, gq_sa]
        have r24 : gp R' lMo 24 = gp M lMo 24 := by rw [f4.2.2.1 24 (by omega) (by omega) (by omega) (by omega), ← xe.2 24 (by omega)]; simp (disch := omega) only [gp_ne, gpa_ne, gp_sp, gp_sa, upd_eq, upd_ne, gq_sp, gq_sa]
        have r15 : gp R' lMo 15 = 1 := by rw [f4.2.2.1 15 (by omega) (by omega) (by omega) (by omega), ← hp15]; simp (disch := omega) only [gp_ne, gpa_ne, gp_sp, gp_sa, upd_eq, upd_ne, gq_sp, gq_sa]
        have r31 : gp R' lMo 31 = gp M lMo 31 := by rw [f4.2.2.1 31 (by omega) (by omega) (by omega) (by omega), ← xe.2 31 (by omega)]; simp (disch := omega) only [gp_ne, gpa_ne, gp_sp, gp_sa, upd_eq, upd_ne, gq_sp, gq_sa]
        have r30 : gp R' (lMa 30) = gp M (lMa 30) := by rw [f4.2.1 (lMa 30) (by simp) (by simp [dy]), ← xe.1 30]; rfl
        have go1 : go R' 0 = (nI a).toInt64 := by
          have : go R' = go (so C1 0 (nI a).toInt64) := by unfold go; rw [f4.1]; rfl
          rw [this, go_so]; exact if_pos rfl
        have sRR : sR S n R' := by
          refine sR_fr f4 (sR_mo (sR_mo ?_))
          unfold sR
          rw [xe.1, xe.1, xe.1, xe.1, xe.1, xe.1, xe.1, xe.1, xe.1, xe.1, xe.1]
          exact q3.2.2.1
        have X1 : ∀ l : kLb, l.1 ≠ 0 → l.1 ≠ 8 → gp (so C1 0 (nI a).toInt64) l = gp C' l := fun l x y => by rw [gp_so]; exact c1 l x y
        have X2 : ∀ l, l ≠ lD → gq (so C1 0 (nI a).toInt64) l = gq M l := fun l x => by rw [gq_so]; exact c2 l x
        -- what stands when the query goes on
        have stays : ∀ {M2 : kM} (as nw : Int32), M2.2 = R'.2 → (∀ l : kLb, l ≠ lMo → l ≠ lMa 30 → gp M2 l = gp R' l) → gp M2 lMo 36 = as → gp M2 lMo 35 = nw → bl as → lv S C' R' 10 0 → (as = 1 → ∃ s, nw = nI s ∧ susp S R' 10 0 s) → qS T S n M2 := by
          intro M2 as nw m1 m2 m3 m4 m5 m6 m7
          have gX : ∀ l : kLb, l.1 ≠ 10 → l.1 ≠ 21 → l.1 ≠ 0 → l.1 ≠ 8 → gp M2 l = gp C' l := fun l x y z u => by
            rw [m2 l (fun z => by rw [z] at x; exact x rfl) (fun z => by rw [z] at y; exact y rfl), f4.2.1 l x (Or.inl y), gp_sp_ne (fun z => by rw [z] at x; exact x rfl), gp_sp_ne (fun z => by rw [z] at x; exact x rfl)]
            exact X1 l z u
          have gQ : ∀ l, l ≠ lD → gq M2 l = gq M l := fun l x => by
            have : gq M2 l = gq (so C1 0 (nI a).toInt64) l := by unfold gq; rw [m1, f4.1]; rfl
            rw [this, X2 l x]
          have gA : ∀ j, j ≠ 30 → gp M2 (lMa j) = gp R' (lMa j) := fun j x => m2 (lMa j) (by simp) (by simpa using x)
          refine ⟨hS, ?_, ?_, q3.2.2.2.1, hn0, ?_, by rw [m3]; exact m5, fun z => ?_⟩
          · exact sC_cg (fun a j x y _ _ => gX (a, j) (by simp only; omega) (by simp only; omega) (by simp only; omega) (by simp only; omega)) (fun i => by rw [gQ _ (by simp), qC]) sC'
          · unfold sR at *
            rw [gA 17 (by decide), gA 21 (by decide), gA 34 (by decide), gA 18 (by decide), gA 19 (by decide), gA 20 (by decide), gA 13 (by decide), gA 3 (by decide), gA 2 (by decide), gA 4 (by decide), gA 5 (by decide)]
            exact sRR
          · refine lv_congr hS 10 0 hn0 (fun k x y => ⟨fun z x y => gX (z, k) (by simp only; omega) (by simp only; omega) (by simp only; omega) (by simp only; omega), ?_⟩) m6
            unfold rvE
            rw [gA 26 (by decide), gA 27 (by decide), gA 28 (by decide), gA 29 (by decide), gA 38 (by decide), gA 39 (by decide)]
            exact ⟨rfl, rfl, rfl, fun _ _ => rfl, fun _ _ => rfl, fun _ _ => rfl⟩
          · rw [m3] at z
            obtain ⟨s, s1, s2⟩ := m7 z
            refine ⟨s, by rw [m4]; exact s1, ?_⟩
            have : ∀ e t s, susp S R' e t s → susp S M2 e t s := by
              intro e
              induction e with
              | zero => intro t s z; exact z
              | succ e ih =>
                intro t s z
                rw [susp] at z ⊢
                unfold pas at *
                rw [gA 26 (by decide), gA 39 (by decide)]
                rcases z with z | z | z
                · exact Or.inl z
                · exact Or.inr (Or.inl ⟨z.1, ih _ _ z.2⟩)
                · exact Or.inr (Or.inr ⟨z.1, z.2.1, ih _ _ z.2.2⟩)
            exact this 10 0 s s2
        have tk : (gp R' lMo 24 + nI f) - gp R' lMo 25 = (gp M lMo 24 + nI f) - nI f' := by rw [r24, f2]
        rcases post with ⟨rfl, l1, lv1, rw1⟩ | ⟨rfl, l1⟩ | ⟨rfl, s, l1, su1, lv1⟩ | ⟨rfl, l1⟩
        · obtain ⟨ww, qd, lst⟩ := c6 rfl
          refine ⟨0, _, 1, ltM S R' (nI f), e155, by rw [e140, l1, lp_end1 hS hn0 sRR], ?_, fun _ => ?_, ?_⟩
          · unfold ltM tkn tl; simp (disch := omega) only [gp_ne, gpa_ne, gp_sp, gp_sa, upd_eq, upd_ne, gq_sp, gq_sa]; exact r0
          · show go R' 0 = _; rw [go1]; rfl
          · refine step_inv (S := S) (n := n) (w := w) (f := f) (f' := f') h fC X1 X2 f4 rfl ?_ ?_ f3 ?_ c4 (by rw [gp_so]; exact c5) ?_ ?_ (Or.inr ⟨by rw [gq_so]; exact qd, ?_, S, n, ?_⟩)
            · intro l x y
              unfold ltM tkn tl
              rw [gp_sa_ne y, gp_sp_ne x, gp_sp_ne x, gp_sp_ne x, gp_sp_ne x, gp_sp_ne x]
            · intro k x1 x2 x3 x4 x5 x6
              unfold ltM tkn tl
              simp (disch := omega) only [gp_ne, gpa_ne, gp_sp, gp_sa, upd_eq, upd_ne, gq_sp, gq_sa]
            · unfold ltM tkn tl; simp (disch := omega) only [gp_ne, gpa_ne, gp_sp, gp_sa, upd_eq, upd_ne, gq_sp, gq_sa]; exact tk
            · unfold ltM tkn tl; simp (disch := omega) only [gp_ne, gpa_ne, gp_sp, gp_sa, upd_eq, upd_ne, gq_sp, gq_sa]; rw [ww]
            · intro c hc
              rw [gp_so, lst c hc, rw1 c (by omega)]
              unfold ltM
              simp (disch := omega) only [gp_ne, gpa_ne, gp_sp, gp_sa, upd_eq, upd_ne, gq_sp, gq_sa]
              rw [fl0_in (by omega)]
            · unfold ltM tkn tl; simp (disch := omega) only [gp_ne, gpa_ne, gp_sp, gp_sa, upd_eq, upd_ne, gq_sp, gq_sa]; exact r15
            · refine stays 0 (nI 0) rfl ?_ ?_ ?_ (Or.inl rfl) lv1 (fun z => absurd z (by decide))
              · intro l x y
                unfold ltM tkn tl
                rw [gp_sa_ne y, gp_sp_ne x, gp_sp_ne x, gp_sp_ne x, gp_sp_ne x, gp_sp_ne x]
              · unfold ltM tkn tl; simp (disch := omega) only [gp_ne, gpa_ne, gp_sp, gp_sa, upd_eq, upd_ne, gq_sp, gq_sa]
              · unfold ltM tkn tl; simp (disch := omega) only [gp_ne, gpa_ne, gp_sp, gp_sa, upd_eq, upd_ne, gq_sp, gq_sa]
        · obtain ⟨w31, lst⟩ := c7 (by omega)
          refine ⟨0, _, 0, sp (tkn (tl R' 0 0) (nI f)) lMo 15 0, e155, by rw [e140, l1, lp_end0], ?_, fun _ => ?_, ?_⟩
          · unfold tkn tl; simp (disch := omega) only [gp_ne, gpa_ne, gp_sp, gp_sa, upd_eq, upd_ne, gq_sp, gq_sa]; exact r0
          · show go R' 0 = _; rw [go1]; rfl
          · refine step_inv (S := S) (n := n) (w := w) (f := f) (f' := f') h fC X1 X2 f4 rfl ?_ ?_ f3 ?_ c4 (by rw [gp_so]; exact c5) ?_ ?_ (Or.inl ⟨by rw [gq_so]; exact c9 (Or.inl rfl), by simp (disch := omega) only [gp_ne, gpa_ne, gp_sp, gp_sa, upd_eq, upd_ne, gq_sp, gq_sa]⟩)
            · intro l x y
              unfold tkn tl
              rw [gp_sp_ne x, gp_sp_ne x, gp_sp_ne x, gp_sp_ne x, gp_sp_ne x]
            · intro k x1 x2 x3 x4 x5 x6
              unfold tkn tl
              simp (disch := omega) only [gp_ne, gpa_ne, gp_sp, gp_sa, upd_eq, upd_ne, gq_sp, gq_sa]
            · unfold tkn tl; simp (disch := omega) only [gp_ne, gpa_ne, gp_sp, gp_sa, upd_eq, upd_ne, gq_sp, gq_sa]; exact tk
            · unfold tkn tl; simp (disch := omega) only [gp_ne, gpa_ne, gp_sp, gp_sa, upd_eq, upd_ne, gq_sp, gq_sa]; rw [r31]; exact w31
            · intro c hc
              rw [gp_so, lst c hc]
              unfold tkn tl
              simp (disch := omega) only [gp_ne, gpa_ne, gp_sp, gp_sa, upd_eq, upd_ne, gq_sp, gq_sa]
              rw [r30]
        · obtain ⟨w31, lst⟩ := c7 (by omega)
          refine ⟨0, _, 2, tkn (ak R' s) (nI f), e155, by rw [e140, l1, lq_2], ?_, fun _ => ?_, ?_⟩
          · unfold tkn ak; simp (disch := omega) only [gp_ne, gpa_ne, gp_sp, gp_sa, upd_eq, upd_ne, gq_sp, gq_sa]; exact r0
          · show go R' 0 = _; rw [go1]; rfl
          · refine step_inv (S := S) (n := n) (w := w) (f := f) (f' := f') h fC X1 X2 f4 rfl ?_ ?_ f3 ?_ c4 (by rw [gp_so]; exact c5) ?_ ?_ (Or.inr ⟨by rw [gq_so]; exact c8 rfl, ?_, S, n, ?_⟩)
            · intro l x y
              unfold tkn ak
              rw [gp_sp_ne x, gp_sp_ne x, gp_sp_ne x]
            · intro k x1 x2 x3 x4 x5 x6
              unfold tkn ak
              simp (disch := omega) only [gp_ne, gpa_ne, gp_sp, gp_sa, upd_eq, upd_ne, gq_sp, gq_sa]
            · unfold tkn ak; simp (disch := omega) only [gp_ne, gpa_ne, gp_sp, gp_sa, upd_eq, upd_ne, gq_sp, gq_sa]; exact tk
            · unfold tkn ak; simp (disch := omega) only [gp_ne, gpa_ne, gp_sp, gp_sa, upd_eq, upd_ne, gq_sp, gq_sa]; rw [r31]; exact w31
            · intro c hc
              rw [gp_so, lst c hc]
              unfold tkn ak
              simp (disch := omega) only [gp_ne, gpa_ne, gp_sp, gp_sa, upd_eq, upd_ne, gq_sp, gq_sa]
              rw [r30]
            · unfold tkn ak; simp (disch := omega) only [gp_ne, gpa_ne, gp_sp, gp_sa, upd_eq, upd_ne, gq_sp, gq_sa]; exact r15
            · refine stays 1 (nI s) rfl ?_ ?_ ?_ (Or.inr rfl) lv1 (fun _ => ⟨s, rfl, su1⟩)
              · intro l x y
                unfold tkn ak
                rw [gp_sp_ne x, gp_sp_ne x, gp_sp_ne x]
              · unfold tkn ak; simp (disch := omega) only [gp_ne, gpa_ne, gp_sp, gp_sa, upd_eq, upd_ne, gq_sp, gq_sa]
              · unfold tkn ak; simp (disch := omega) only [gp_ne, gpa_ne, gp_sp, gp_sa, upd_eq, upd_ne, gq_sp, gq_sa]
        · obtain ⟨w31, lst⟩ := c7 (by omega)
          refine ⟨0, _, 3, sp (tkn R' (nI f)) lMo 15 0, e155, by rw [e140, l1, lq_3], ?_, fun _ => ?_, ?_⟩
          · unfold tkn; simp (disch := omega) only [gp_ne, gpa_ne, gp_sp, gp_sa, upd_eq, upd_ne, gq_sp, gq_sa]; exact r0
          · show go R' 0 = _; rw [go1]; rfl
          · refine step_inv (S := S) (n := n) (w := w) (f := f) (f' := f') h fC X1 X2 f4 rfl ?_ ?_ f3 ?_ c4 (by rw [gp_so]; exact c5) ?_ ?_ (Or.inl ⟨by rw [gq_so]; exact c9 (Or.inr rfl), by simp (disch := omega) only [gp_ne, gpa_ne, gp_sp, gp_sa, upd_eq, upd_ne, gq_sp, gq_sa]⟩)
            · intro l x y
              unfold tkn
              rw [gp_sp_ne x, gp_sp_ne x]
            · intro k x1 x2 x3 x4 x5 x6
              unfold tkn
              simp (disch := omega) only [gp_ne, gpa_ne, gp_sp, gp_sa, upd_eq, upd_ne, gq_sp, gq_sa]
            · unfold tkn; simp (disch := omega) only [gp_ne, gpa_ne, gp_sp, gp_sa, upd_eq, upd_ne, gq_sp, gq_sa]; exact tk
            · unfold tkn; simp (disch := omega) only [gp_ne, gpa_ne, gp_sp, gp_sa, upd_eq, upd_ne, gq_sp, gq_sa]; rw [r31]; exact w31
            · intro c hc
              rw [gp_so, lst c hc]
              unfold tkn
              simp (disch := omega) only [gp_ne, gpa_ne, gp_sp, gp_sa, upd_eq, upd_ne, gq_sp, gq_sa]
              rw [r30]
      have a4 : a < 4 := by
        obtain ⟨R', f', -, -, -, -, post⟩ := run M ⟨fun _ => rfl, fun _ _ => rfl⟩
        rcases post with ⟨z, -⟩ | ⟨z, -⟩ | ⟨z, -⟩ | ⟨z, -⟩ <;> omega
      obtain ⟨lw, lw1, lw2, lw3, lw4⟩ := hlast
      by_cases a1 : a = 1
      · subst a1
        have c3 := sC'.2.2.1 0 hn0
        rw [if_pos n11, qC, q1] at e14
        unfold F_17 at e14
        have r5 : gp (sp C' lD 5 (nI (wd S 0))) lD 5 = nI (wd S 0) := by simp (disch := omega) only [gp_ne, gpa_ne, gp_sp, gp_sa, upd_eq, upd_ne, gq_sp, gq_sa]
        rw [kOpt_s, lv_tm (Nat.lt_of_lt_of_le hn0 sC'.1), kGd_t, c3.2.2.2.2.2.1, r5, show (0 : Int32) = nI 0 from rfl, kCk_t (by omega) (by omega) (by omega) (by omega), kGd_t, kBd_s, cpy_fl, pn_nat (by omega), pn_nat (by omega)] at e14
        refine fin _ (wd S 0) ?_ ?_ e14 hw ?_ (fun _ => ⟨rfl, ?_, fun c hc => ?_⟩) (fun z => absurd rfl z) (fun z => absurd z (by omega)) (fun z => absurd z (by omega))
        · intro l x y
          rw [gp_sa_ne (fun z => by rw [z] at y; exact y rfl), gp_sp_ne (fun z => by rw [z] at x; exact x rfl)]
        · intro l x; rw [gq_sa, gq_sp, qC]
        · simp (disch := omega) only [gp_ne, gpa_ne, gp_sp, gp_sa, upd_eq, upd_ne, gq_sp, gq_sa]
        · rw [gq_sa, gq_sp, qC]; exact q1
        · simp (disch := omega) only [gp_ne, gpa_ne, gp_sp, gp_sa, upd_eq, upd_ne, gq_sp, gq_sa]
          rw [fl0_in hc, Nat.zero_add]
      · rw [if_neg (by rw [show (1 : Int32) = nI 1 from rfl, pn_inj (by omega) (by omega)]; exact a1)] at e14
        unfold F_14_65 F_14_74 at e14
        by_cases a0 : a = 0 ∨ a = 3
        · have e14' : F_14 T (nI f) M = some (.inr (nI a), sq C' lD 6 none) := by
            rw [e14]
            rcases a0 with z | z
            · rw [z]; rfl
            · rw [z]; rfl
          refine fin (sq C' lD 6 none) lw (fun l x y => gp_sq _ _ _ _ _) (fun l x => by rw [gq_sq_ne x, qC]) e14' lw1 ?_ (fun z => absurd z a1) (fun _ => ⟨lw3, fun c hc => ?_⟩) (fun z => absurd z (by omega)) (fun _ => by rw [gq_sq]; exact va_up_self _ _ _)
          · rw [gp_sq, gC lD (by simp) (by simp)]; exact lw2
          · rw [gp_sq, gC lLa (by simp) (by simp)]; exact lw4 c hc
        · have a2 : a = 2 := by omega
          have e14' : F_14 T (nI f) M = some (.inr (nI a), C') := by rw [e14, a2]; rfl
          refine fin C' lw (fun l x y => rfl) (fun l x => qC l) e14' lw1 ?_ (fun z => absurd z a1) (fun _ => ⟨lw3, fun c hc => ?_⟩) (fun _ => by rw [qC]; exact q1) (fun z => absurd z a0)
          · rw [gC lD (by simp) (by simp)]; exact lw2
          · rw [gC lLa (by simp) (by simp)]; exact lw4 c hc
