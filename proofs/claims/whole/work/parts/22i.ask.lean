abbrev muG (S : kS) (t : Nat) : kM → Nat := fun R => if kd S t = 9 then 0 else gn R 26 t
set_option maxHeartbeats 4000000 in
theorem kp_all {T : kT} {S : kS} {n t : Nat} {C1 R1 : kM} (hS : sOk S n) (ht : t < n) (h : kd S t = 7 ∨ kd S t = 9 ∨ kd S t = 10) (hC : sC T S n C1) (hR : sR S n R1) (hJ : nd S t C1 R1) (h0 : gp R1 (lMa 39) t = 0) (hrow : ∀ c, c < wd S (t + 1) → gp C1 (lRw (t + 1)) c = gp R1 (lMa 28) ((t + 1) * 12 + c)) : kpS T S n t (muG S t) C1 R1 := by
  rcases h with h | h | h
  · have e : muG S t = fun R => gn R 26 t := funext fun R => if_neg (by omega)
    rw [e]; exact kp_sort hS ht h hC hR hJ h0 hrow
  · have e : muG S t = fun R => 0 := funext fun R => if_pos h
    rw [e]; exact kp_cnt hS ht h hC hR hJ h0
  · have e : muG S t = fun R => gn R 26 t := funext fun R => if_neg (by omega)
    rw [e]; exact kp_group hS ht h hC hR hJ h0 hrow
set_option maxHeartbeats 4000000 in
theorem gather {T : kT} {S : kS} {n E e t d : Nat} {fI : Int32} (hS : sOk S n) (ht : t < n) (hk : kd S t = 7 ∨ kd S t = 9 ∨ kd S t = 10) (ih : AskOk T S n fI E e (t + 1) (d + 1)) : ∀ f C R, sC T S n C → sR S n R → lv S C R e (t + 1) → nd S t C R → gp R (lMa 39) t = 0 → fu C R f →
      ∃ a C' R' f', F_64 T (F_49r T E) (some t) (nI d) C = some (nI a, C') ∧ frC t (en S t) C C' ∧ sC T S n C' ∧ frR t (en S t) R R' ∧ f' ≤ f ∧ fu C' R' f' ∧ gp C' lRu 1 + nI f' = gp C lRu 1 + nI f ∧
        ((a = 0 ∧ Lp T fI (ak R (t + 1)) = Lp T fI (tl R' (t + 1) 0) ∧ (nd S t C' R' ∧ gp R' (lMa 39) t = 0) ∧ muG S t R' + be S e (t + 1) * f' ≤ muG S t R + pA S R e (t + 1) + be S e (t + 1) * f) ∨
         (a = 2 ∧ ∃ s, Lp T fI (ak R (t + 1)) = Lq T fI 2 (ak R' s) ∧ susp S R' e (t + 1) s ∧ lv S C' R' e (t + 1) ∧ (nd S t C' R' ∧ gp R' (lMa 39) t = 0)) ∨
         (a = 3 ∧ Lp T fI (ak R (t + 1)) = Lq T fI 3 R')) := by
  intro f C R hC hR hL hND h39 hF
  have hn := nk hS ht
  have hT := hC.1
  have b1 := hn.2.2.1 (by omega)
  have lpz := loopG (T := T) (fI := fI) hS ht (by omega) ih (fun q C => F_64_2 T (F_49r T E) (some t) (nI d) (nI q) C) (fun C R => (nd S t C R ∧ gp R (lMa 39) t = 0) ∧ True) (muG S t) False
    (fun C R C' R' x1 x2 x3 => by
      have rv := x2.2.2.2 t (by omega)
      refine ⟨⟨⟨nd_child hS ht (by omega) C R C' R' x1 x2 x3.1.1, by rw [rv.2.2.1]; exact x3.1.2⟩, trivial⟩, ?_⟩
      unfold muG gn
      rw [rv.1]) (by
      intro q C C1 hq hC hC1 r er
      have c3 := hC.2.2.1 t ht
      have eq : F_64_2 T (F_49r T E) (some t) (nI d) (nI q) C = kAg (kBd (some (r, C1)) (fun r4 M5 => if r4 = 1 then (kBd (F_65 T (some t) M5) (fun r8 M9 => if r8 = 0 then (some (.inr (3, M9))) else (some (.inl (nI q + 1, M9))))) else (some (.inr (r4, M5))))) (fun w : Int32 × kM => F_64_2 T (F_49r T E) (some t) (nI d) w.1 w.2) := by
        rw [F_64_2_eq]
        unfold B_64_2
        rw [if_neg (by simp (disch := omega) only [pn_mulL, pn_addL, pn_addR, pn_ltL, pn_ltR, pn_leL, pn_leR, pn_eqL, pn_eqR, pn_subL, pn_z, pn_add, pn_mul, pn_nat, pn_inj, pn_lt, pn_le, pn_neg, kGx_nI, kGx_L]; omega), kOpt_s, lv_tm (by omega), kGd_t, c3.2.2.2.2.2.2.1 (by omega), pn_addL, er]
      refine ⟨fun hr => by rw [eq, kBd_s, if_neg hr, kAg_r], fun hr R1 hR1 hJ hrow => ?_⟩
      have lpf : ∀ {b : Int32} {M' : kM}, F_131 T (nI t) (nI (t + 1)) (tl R1 (t + 1) 1) = some (b, M') → Lp T fI (tl R1 (t + 1) 1) = if b = 0 then Lq T fI 3 M' else Lp T fI M' := fun h => lp_tl1 (T := T) (f := fI) (M := R1) hS hR1 (by omega) b1.2.1 (by omega) (by rw [b1.2.2.1]; exact h)
      rw [kBd_s, if_pos hr] at eq
      rcases kp_all hS ht hk hC1 hR1 hJ.1.1 hJ.1.2 hrow with ⟨C2, R2, g1, g2, g3, g4, g5, g6, g7⟩ | ⟨C2, g1, g2, g3, g4⟩
      · rw [g1, kBd_s, if_neg (by decide), kAg_l, pn_addL] at eq
        have lp := lpf g2
        rw [if_neg (by decide)] at lp
        exact Or.inl ⟨C2, R2, eq, lp, g3, g4, ⟨⟨g5, g6⟩, trivial⟩, g7⟩
      · rw [g1, kBd_s, if_pos rfl, kAg_r] at eq
        have lp := lpf g2
        rw [if_pos rfl] at lp
        exact Or.inr (Or.inr ⟨C2, _, eq, lp, g3, g4⟩))
    _ 0 f C R (Nat.le_refl _) (by have := pot_bd (e := e) (t := t + 1) (f := f) hS b1.2.1 hL hF.2.2; omega) hC hR hL ⟨⟨hND, h39⟩, trivial⟩ hF
  obtain ⟨a, C', R', f', ez, x1, x2, x3, x4, x5, x6, post⟩ := lpz
  refine ⟨a, C', R', f', ez, x1, x2, x3, x4, x5, x6, ?_⟩
  rcases post with ⟨rfl, hW, -⟩ | ⟨rfl, y1, y2, y3⟩ | ⟨rfl, s, y1, y2, y3, y4⟩ | ⟨rfl, y1⟩
  · exact absurd hW id
  · exact Or.inl ⟨rfl, y1, y2.1, y3⟩
  · exact Or.inr (Or.inl ⟨rfl, s, y1, y2, y3, y4.1⟩)
  · exact Or.inr (Or.inr ⟨rfl, y1⟩)
