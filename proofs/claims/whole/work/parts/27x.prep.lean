set_option maxHeartbeats 4000000 in
theorem prep_good {T T1 : kT} {M C1 : kM} {m : Nat} (h : iNv T M) (hm : m ≤ 60) (hm2 : gp M lMo 11 = nI m) (t1 : T1.1 = T.1) (t2 : T.2 ≤ T1.2) (h38 : F_38r T 12 0 (Mc1 M) = some (some 0, T1, C1)) (fc : frT 0 (Mc1 M) C1) (g1 : gp C1 lRd 1 = nI m) (g2 : gp C1 lRd 2 = -1) (g3 : gp C1 lRd 3 = nI m)
    (hR : ∀ X : kM, gp X lMo = gp M lMo → gp X (lMa 12) = gp M (lMa 12) → gp X (lMa 2) = gp M (lMa 2) → gp X (lMa 3) = gp M (lMa 3) → ∃ R' S' n', Oo T 0 (Yr m X) = Ii T 0 R' ∧ RS m m C1 R' ∧ stT T1 n' C1 ∧ 0 < n' ∧ n' ≤ m ∧ tagr (tS T M) S' ∧ dn S' 0 n' C1 R' ∧ en S' 0 + 1 = n' ∧ hg S' 0 = 9 ∧ frU 0 0 (Yr m X) R') : okA T (F_154 T M) (fun T' => F_120 T') := by
  obtain ⟨m1, m2, m3, m4, m5, m6, m7⟩ := Mc1_g (M := M)
  have hA := h.1
  have hT6 := h.2.2.2.1
  have gC : ∀ l : kLb, l ≠ lRd → l ≠ lD → (l.1 < 15 ∨ 20 < l.1) → gp C1 l = gp M l := fun l x y z => by rw [fc.1 l x (by omega), m6 l y x]
  have gW : ∀ l : kLb, l ≠ lRd → l ≠ lRu → gp (sp (sq (sp C1 lRd 1 0) lD 6 (some 0)) lRu 1 0) l = gp C1 l := fun l x y => by rw [gp_sp_ne y, gp_sq, gp_sp_ne x]
  have gWr : gp (sp (sq (sp C1 lRd 1 0) lD 6 (some 0)) lRu 1 0) lRd = upd (gp C1 lRd) 1 0 := by rw [gp_sp_ne (by simp), gp_sq, gp_sp]
  have gWu : gp (sp (sq (sp C1 lRd 1 0) lD 6 (some 0)) lRu 1 0) lRu 1 = 0 := by simp (disch := omega) only [gp_ne, gpa_ne, gp_sp, gp_sa, upd_eq, upd_ne, gq_sp, gq_sa]
  have gWq : ∀ l, l ≠ lD → gq (sp (sq (sp C1 lRd 1 0) lD 6 (some 0)) lRu 1 0) l = gq C1 l := fun l x => by rw [gq_sp, gq_sq_ne x]; rfl
  have gW6 : gq (sp (sq (sp C1 lRd 1 0) lD 6 (some 0)) lRu 1 0) lD 6 = some 0 := by rw [gq_sp, gq_sq, va_up_self]
  -- what a picture gives
  have pic : ∀ (R' : kM) (S' : kS) (n' : Nat), stT T1 n' C1 → 0 < n' → n' ≤ m → tagr (tS T M) S' → dn S' 0 n' C1 R' → hg S' 0 = 9 → sOk S' n' ∧ ∃ C', F_48r T1 12 (some 0) (nI 0) (sp (sq (sp C1 lRd 1 0) lD 6 (some 0)) lRu 1 0) = some ((), C') ∧ frC 0 (en S' 0) (sp (sq (sp C1 lRd 1 0) lD 6 (some 0)) lRu 1 0) C' ∧ sC T1 S' n' C' ∧ (∀ k, 0 ≤ k → k ≤ en S' 0 → caN S' k C') ∧ gp C' lRu = gp (sp (sq (sp C1 lRd 1 0) lD 6 (some 0)) lRu 1 0) lRu := fun R' S' n' st n0 nm tg hd hh => by
    have sO := sOk_of hA hT6 tg hd (by omega)
    have sc' : sC T1 S' n' (sp (sq (sp C1 lRd 1 0) lD 6 (some 0)) lRu 1 0) := sC_of hA tg hd st.2.2.1 (by omega) (fun j => gW _ (by simp) (by simp)) (fun j => gW _ (by simp) (by simp)) (fun j => gWq _ (by simp)) (fun j => by rw [gW _ (by simp) (by simp), gC _ (by simp) (by simp) (by simp)]) (fun j => by rw [gW _ (by simp) (by simp), gC _ (by simp) (by simp) (by simp)])
    exact ⟨sO, cl_anew sO 12 0 0 _ n0 (by omega) (by omega) sc'⟩
  have e154 : ∀ C2, F_48r T1 12 (some 0) (nI 0) (sp (sq (sp C1 lRd 1 0) lD 6 (some 0)) lRu 1 0) = some ((), C2) → gq C2 lD 6 = some 0 → 0 < T1.2 → F_154 T M = some (0, T1, so C2 0 (gp C2 (lTm 0) 9).toInt64) := fun C2 x y z => cls_ok (f32_ok h38 g2 g1 g3 hm (by omega) t2) x y z (by omega) t2
  generalize sp (sq (sp C1 lRd 1 0) lD 6 (some 0)) lRu 1 0 = Wm at *
  have mo : gp (Mc1 M) lMo = gp M lMo := m6 lMo (by simp) (by simp)
  have ma : ∀ j, gp (Mc1 M) (lMa j) = gp M (lMa j) := fun j => m6 (lMa j) (by simp) (by simp)
  obtain ⟨R0, S0, n0, a1, a2, a3, a4, a5, a6, a7, a8, a9, a10⟩ := hR (Mc1 M) mo (ma 12) (ma 2) (ma 3)
  obtain ⟨-, C2, c1, c2, c3, c4, c5⟩ := pic R0 S0 n0 a3 a4 a5 a6 a7 a9
  have q2 : ∀ l, gq C2 l = gq Wm l := fun l => by unfold gq; rw [c2.1]
  have T0 : 0 < T1.2 := by have := a3.2.2.1; omega
  have eC := e154 C2 c1 (by rw [q2]; exact gW6) T0
  have gX : ∀ l, gp (so C2 0 (gp C2 (lTm 0) 9).toInt64) l = gp C2 l := fun l => rfl
  have gXq : ∀ l, gq (so C2 0 (gp C2 (lTm 0) 9).toInt64) l = gq C2 l := fun l => rfl
  have gXo : go (so C2 0 (gp C2 (lTm 0) 9).toInt64) 0 = (gp C2 (lTm 0) 9).toInt64 := by rw [go_so]; exact if_pos rfl
  generalize so C2 0 (gp C2 (lTm 0) 9).toInt64 = X at *
  have gC2 : ∀ l : kLb, l ≠ lRd → l ≠ lD → l ≠ lRu → (l.1 < 15 ∨ 20 < l.1) → l.1 ≠ 7 → gp C2 l = gp M l := fun l x y z u v => by rw [c2.2 l v (by omega), gW l x z, gC l x y u]
  have xMo : gp X lMo = gp M lMo := by rw [gX, gC2 lMo (by simp) (by simp) (by simp) (by simp) (by simp)]
  have xMa : ∀ j, gp X (lMa j) = gp M (lMa j) := fun j => by rw [gX, gC2 (lMa j) (by simp) (by simp) (by simp) (by simp) (by simp)]
  clear a1 a2 a3 a4 a5 a6 a7 a8 a9 a10
  obtain ⟨R', S', n', a1, a2, a3, a4, a5, a6, a7, a8, a9, a10⟩ := hR X xMo (xMa 12) (xMa 2) (xMa 3)
  obtain ⟨sO, C2', d1, d2, d3, d4, d5⟩ := pic R' S' n' a3 a4 a5 a6 a7 a9
  have ee : C2' = C2 := by
    rw [c1] at d1
    exact (congrArg Prod.snd (Option.some.inj d1)).symm
  subst ee
  have r23 : gp R' lMo 23 = -1 := a2.2.2.2.2.2.2.2.1
  have ro := ref_open (T := T1) (R' := R') hm (by rw [xMo]; exact hm2) (((Oo_T T1 T 0 _).trans a1).trans (i_top r23))
  rw [r23, if_neg (by decide), a2.2.2.2.1, a2.2.2.2.2.2.1, if_pos (by rw [pn_le (by omega) (by omega)]; omega)] at ro
  obtain ⟨y1, y2, y3, y4, y5, y6, y7, y8, y9⟩ := Yr_mo (m := m) (X := X)
  have gZ : ∀ l : kLb, l ≠ lMo → gp (Zr R') l = gp R' l := fun l x => by unfold Zr; rw [gp_sp_ne x, gp_sp_ne x, gp_sp_ne x, gp_sp_ne x, gp_sp_ne x, gp_sp_ne x]
  have rM : ∀ j, j = 2 ∨ j = 4 ∨ j = 5 → gp (Zr R') (lMa j) = gp M (lMa j) := fun j hj => by
    rw [gZ _ (by simp), a10.2.1 (lMa j) (by simp) (by right; show ¬ (j = 17 ∨ j = 18 ∨ j = 19 ∨ j = 20 ∨ j = 21 ∨ j = 32 ∨ j = 33 ∨ j = 34); omega), y8 (lMa j) (by simp) (by simp only [ne_eq, Prod.mk.injEq, true_and]; omega), xMa]
  have sRz : sR S' n' (Zr R') := sR_of hA a6 a7 (fun j _ => gZ _ (by simp)) rM
  obtain ⟨M2, f1, f2⟩ := rf_anew (T := T1) (t := 0) sO a4 sRz
  have e120 := ro.trans (ref_88t r23 f1)
  have fMa : ∀ j, j ≠ 38 → j ≠ 26 → j ≠ 39 → gp M2 (lMa j) = gp R' (lMa j) := fun j a b c => by rw [f2.2.1 (lMa j) (by simpa using a) (by simpa using b) (by simpa using c), gZ _ (by simp)]
  have gR : ∀ l : kLb, l ≠ lMo → l.1 ≠ 21 → gp M2 l = gp C2' l := fun l x y => by
    rw [f2.2.1 l (fun z => y (by rw [z])) (fun z => y (by rw [z])) (fun z => y (by rw [z])), gZ l x, a10.2.1 l x (Or.inl y), y8 l x (fun z => y (by rw [z])), gX]
  have gRm : ∀ j, j = 2 ∨ j = 3 ∨ j = 4 ∨ j = 5 ∨ j = 6 ∨ j = 9 ∨ j = 10 → gp M2 (lMa j) = gp M (lMa j) := fun j hj => by
    rw [fMa j (by omega) (by omega) (by omega), a10.2.1 (lMa j) (by simp) (by right; show ¬ (j = 17 ∨ j = 18 ∨ j = 19 ∨ j = 20 ∨ j = 21 ∨ j = 32 ∨ j = 33 ∨ j = 34); omega), y8 (lMa j) (by simp) (by simp only [ne_eq, Prod.mk.injEq, true_and]; omega), xMa]
  have gMo : gp M2 lMo = gp (Zr R') lMo := f2.2.1 lMo (by simp) (by simp) (by simp)
  have z0 : gp (Zr R') lMo 0 = 0 ∧ gp (Zr R') lMo 11 = 0 ∧ gp (Zr R') lMo 14 = -1 ∧ gp (Zr R') lMo 15 = 1 ∧ gp (Zr R') lMo 35 = 0 ∧ gp (Zr R') lMo 36 = 1 ∧ ∀ k, k ≠ 0 → k ≠ 11 → k ≠ 14 → k ≠ 15 → k ≠ 35 → k ≠ 36 → gp (Zr R') lMo k = gp R' lMo k := by
    unfold Zr
    refine ⟨by simp (disch := omega) only [gp_ne, gpa_ne, gp_sp, gp_sa, upd_eq, upd_ne, gq_sp, gq_sa], by simp (disch := omega) only [gp_ne, gpa_ne, gp_sp, gp_sa, upd_eq, upd_ne, gq_sp, gq_sa], by simp (disch := omega) only [gp_ne, gpa_ne, gp_sp, gp_sa, upd_eq, upd_ne, gq_sp, gq_sa], by simp (disch := omega) only [gp_ne, gpa_ne, gp_sp, gp_sa, upd_eq, upd_ne, gq_sp, gq_sa], by simp (disch := omega) only [gp_ne, gpa_ne, gp_sp, gp_sa, upd_eq, upd_ne, gq_sp, gq_sa], by simp (disch := omega) only [gp_ne, gpa_ne, gp_sp, gp_sa, upd_eq, upd_ne, gq_sp, gq_sa], fun k a b c d e f => by simp (disch := omega) only [gp_ne, gpa_ne, gp_sp, gp_sa, upd_eq, upd_ne, gq_sp, gq_sa]⟩
  obtain ⟨z1, z2, z3, z4, z5, z6, z7⟩ := z0
  have g2s : M2.2 = X.2 := by rw [f2.1]; show R'.2 = _; rw [a10.1]; rfl
  have gq2 : ∀ l, gq M2 l = gq Wm l := fun l => by
    have : gq M2 l = gq X l := by unfold gq; rw [g2s]
    rw [this, gXq, q2]
  have gRd : gp M2 lRd = upd (gp C1 lRd) 1 0 := by rw [gR lRd (by simp) (by simp), c2.2 lRd (by simp) (by simp), gWr]
  have w0 : gp M2 (lMa 21) 0 = nI (wd S' 0) := by rw [fMa 21 (by decide) (by decide) (by decide)]; exact (a7 0 (Nat.le_refl _) a4).2.1.2.1
  have w9 : gp C2' (lTm 0) 9 = nI (wd S' 0) := (d3.2.2.1 0 a4).2.2.2.2.2.1
  have qs : qS T1 S' n' M2 := by
    refine ⟨sO, sC_cg (fun a j x y _ _ => gR (a, j) (by simp only [ne_eq, Prod.mk.injEq]; omega) (by show a ≠ 21; omega)) (fun i => by rw [gq2, ← q2]) d3, sR_of hA a6 a7 (fun j hj => fMa j (by omega) (by omega) (by omega)) (fun j hj => gRm j (by omega)), by omega, a4, ?_, by rw [gMo, z6]; exact Or.inr rfl, fun _ => ⟨0, by rw [gMo, z5]; rfl, Or.inl rfl⟩⟩
    refine (lv_fresh sO 10 0 a4 (by omega) (fun k x y => ⟨?_, ?_, ?_, ?_⟩)).1
    · have := d4 k x y
      unfold caN at *
      rw [gR (lTm k) (by simp) (by simp), gR (lKp k) (by simp) (by simp)]; exact this
    · rw [f2.2.2 26 (by omega), if_pos (by omega)]
    · rw [f2.2.2 38 (by omega), if_pos (by omega)]
    · rw [f2.2.2 39 (by omega), if_pos (by omega)]
  refine ⟨0, T1, X, gp M2 (lMa 21) 0, M2, eC, e120, by rw [gMo, z1], fun _ => ?_, prep_iv h t1 (fun l x y => ?_) (fun k hk => ?_) ?_ ?_ ?_ ?_ ?_ ?_ ?_ (Or.inr ⟨?_, ?_, S', n', qs⟩) (iZ_of a3 (fun l x => by rw [gq2, gWq l x]) (Or.inr ⟨?_, T0⟩)) ?_ ?_, by omega, t2⟩
  · have : go M2 0 = go X 0 := by unfold go; rw [g2s]
    rw [this, gXo, w9, w0]
  · obtain ⟨l1, l2⟩ := l
    by_cases q : l1 = 21
    · subst q
      exact gRm l2 (by simp only at x; omega)
    · have x' : l1 = 1 ∨ l1 = 3 ∨ (11 ≤ l1 ∧ l1 ≤ 14) := by simp only at x; omega
      rw [gR (l1, l2) y q, gC2 (l1, l2) (by simp only [ne_eq, Prod.mk.injEq]; omega) (by simp only [ne_eq, Prod.mk.injEq]; omega) (by simp only [ne_eq, Prod.mk.injEq]; omega) (by simp only; omega) (by simp only; omega)]
  · rw [gMo, z7 k (by omega) (by omega) (by omega) (by omega) (by omega) (by omega), a10.2.2.1 k (by omega) (by omega) (by omega), y7 k (by omega) (by omega) (by omega) (by omega) (by omega) (by omega), xMo]
  · rw [gq2, gWq lAl (by simp), fc.2.1 lAl (by simp) (by simp), m7]
  · rw [gRd, upd_eq]
  · rw [gMo, z2]
  · rw [gRd, upd_ne (by decide), gMo, z3, g2]
  · rw [gR lD (by simp) (by simp), c2.2 lD (by simp) (by simp), gW lD (by simp) (by simp), fc.1 lD (by simp) (by simp), m5]
  · rw [gMo, z7 31 (by decide) (by decide) (by decide) (by decide) (by decide) (by decide), a10.2.2.1 31 (by decide) (by decide) (by decide), y6]
  · rw [gR lRu (by simp) (by simp), c5, gWu, gMo, z7 24 (by decide) (by decide) (by decide) (by decide) (by decide) (by decide), a10.2.2.1 24 (by decide) (by decide) (by decide), y5]
  · rw [gq2, gW6]
  · rw [gMo, z4]
  · rw [gq2, gW6]
  · rw [gR lTs (by simp) (by simp), gC2 lTs (by simp) (by simp) (by simp) (by simp) (by simp)]
  · rw [gR lHa (by simp) (by simp), gC2 lHa (by simp) (by simp) (by simp) (by simp) (by simp)]
set_option maxHeartbeats 4000000 in
theorem c_prepare {T : kT} {M : kM} (h : iNv T M) : okA T (F_154 T M) (fun T' => F_120 T') := by
  obtain ⟨m, hm, hm1, hm2, hmw⟩ := h.2.1.2.1
  obtain ⟨m1, m2, m3, m4, m5, m6, m7⟩ := Mc1_g (M := M)
  have A : ∀ X : kM, gp X lMo = gp M lMo → gp X (lMa 12) = gp M (lMa 12) → gp X (lMa 2) = gp M (lMa 2) → gp X (lMa 3) = gp M (lMa 3) → noR T m 0 0 (Mc1 M) (Yr m X) (F_38r T 12 0 (Mc1 M)) (Oo T 0 (Yr m X)) ∨ okR T (tS T M) m 0 0 0 0 (Mc1 M) (Yr m X) (F_38r T 12 0 (Mc1 M)) (Oo T 0 (Yr m X)) := fun X a b c d => prep_read h hm hm1 hm2 hmw a b c d
  have mo : gp (Mc1 M) lMo = gp M lMo := m6 lMo (by simp) (by simp)
  have ma : ∀ j, gp (Mc1 M) (lMa j) = gp M (lMa j) := fun j => m6 (lMa j) (by simp) (by simp)
  rcases A (Mc1 M) mo (ma 12) (ma 2) (ma 3) with ⟨T1, C1, R1, n, a1, a2, a3, a4, a5, a6, a7, a8⟩ | ⟨T1, C1, R1, S1, n, p, ⟨a1, a2, a3, a4, a5, a6, a7, a8, a9⟩, ⟨b1, b2, b3, b4, b5, b6, b7, b8, b9⟩, c1, c2⟩
  · obtain ⟨-, -, -, q, hq, g2, -⟩ := a3
    refine prep_fail h hm hm2 a5 a6 (f32_f1 a1 (by rw [g2]; exact pn_ne1 (by omega)) (by omega) a6) a7 a4 hq g2 (fun X x1 x2 x3 x4 => ?_)
    rcases A X x1 x2 x3 x4 with ⟨T2, C2, R2, n2, d1, d2, d3, d4, d5, d6, d7, d8⟩ | ⟨T2, C2, R2, S2, n2, p2, ⟨d1, d2⟩, -⟩
    · rw [a1] at d1
      have e := Option.some.inj d1
      have e2 : C1 = C2 := congrArg (fun z => z.2.2) e
      subst e2
      obtain ⟨-, -, -, q', hq', g2', g3'⟩ := d3
      have qq : q' = q := by
        have := g2'.symm.trans g2
        rwa [pn_inj (by omega) (by omega)] at this
      subst qq
      exact ⟨R2, d2, d8, Or.inl g3'⟩
    · rw [a1] at d1
      exact absurd (congrArg Prod.fst (Option.some.inj d1)) (by simp)
  · have B : ∀ X : kM, gp X lMo = gp M lMo → gp X (lMa 12) = gp M (lMa 12) → gp X (lMa 2) = gp M (lMa 2) → gp X (lMa 3) = gp M (lMa 3) → ∃ R' S' n', Oo T 0 (Yr m X) = Ii T 0 R' ∧ RS m p C1 R' ∧ stT T1 n' C1 ∧ 0 < n' ∧ n' ≤ p ∧ tagr (tS T M) S' ∧ dn S' 0 n' C1 R' ∧ en S' 0 + 1 = n' ∧ hg S' 0 = 9 ∧ frU 0 0 (Yr m X) R' := fun X x1 x2 x3 x4 => by
      rcases A X x1 x2 x3 x4 with ⟨T2, C2, R2, n2, d1, d2⟩ | ⟨T2, C2, R2, S2, n2, p2, ⟨d1, d2, d3, d4, d5, d6, d7, d8, d9⟩, ⟨e1, e2, e3, e4, e5, e6, e7, e8, e9⟩, f1, f2⟩
      · rw [a1] at d1
        exact absurd (congrArg Prod.fst (Option.some.inj d1)) (by simp)
      · rw [a1] at d1
        have e := Option.some.inj d1
        have c2' : C1 = C2 := congrArg (fun z => z.2.2) e
        have t2' : T1 = T2 := congrArg (fun z => z.2.1) e
        subst c2' t2'
        have pp : p2 = p := by
          have u1 := d3.2.2.2.2.1.symm.trans a3.2.2.2.2.1
          have := d3.1; have := d3.2.1; have := a3.2.1
          rwa [pn_inj (by omega) (by omega)] at u1
        subst pp
        exact ⟨R2, S2, n2, d2, d3, d4, d6, d7, e2, e3, e4, e7, f2⟩
    have pm := a3.2.1
    by_cases q : p < m
    · have st' : stT T1 n (sp C1 lRd 2 (nI p)) := stT_rel relC_2 a4
      refine prep_fail (C1 := sp C1 lRd 2 (nI p)) (q := p) h hm hm2 a8 a9 (f32_f2 a1 a3.2.2.2.2.2.2.1 a3.2.2.1 a3.2.2.2.2.1 hm q (by omega) a9) (frT_trans c1 (frT_rd (Or.inl rfl)) (Nat.le_refl _) (Nat.le_refl _)) st' (by omega) (by simp (disch := omega) only [gp_ne, gpa_ne, gp_sp, gp_sa, upd_eq, upd_ne, gq_sp, gq_sa]) (fun X x1 x2 x3 x4 => ?_)
      obtain ⟨R2, S2, n2, d1, d2, -, -, -, -, -, -, -, d3⟩ := B X x1 x2 x3 x4
      exact ⟨R2, d1.trans (i_top d2.2.2.2.2.2.2.2.1), d3, Or.inr ⟨d2.2.2.2.2.2.2.2.1, d2.2.2.2.1, d2.2.2.2.2.2.1, q⟩⟩
    · have e : p = m := by omega
      subst e
      exact prep_good h hm hm2 a8 a9 a1 c1 a3.2.2.1 a3.2.2.2.2.2.2.1 a3.2.2.2.2.1 B
