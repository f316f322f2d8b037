set_option maxHeartbeats 4000000 in
theorem prep_fail {T T1 : kT} {M C1 : kM} {m q n : Nat} (h : iNv T M) (hm : m ≤ 60) (hm2 : gp M lMo 11 = nI m) (t1 : T1.1 = T.1) (t2 : T.2 ≤ T1.2) (h32 : F_32 T (sp M lD 5 0) = some (none, T1, sp C1 lRd 1 0)) (fc : frT 0 (Mc1 M) C1) (st : stT T1 n C1) (hq : q ≤ 60) (g2 : gp C1 lRd 2 = nI q)
    (hR : ∀ X : kM, gp X lMo = gp M lMo → gp X (lMa 12) = gp M (lMa 12) → gp X (lMa 2) = gp M (lMa 2) → gp X (lMa 3) = gp M (lMa 3) → ∃ R', Oo T 0 (Yr m X) = some ((), R') ∧ frU 0 0 (Yr m X) R' ∧ (gp R' lMo 23 = nI q ∨ (gp R' lMo 23 = -1 ∧ gp R' lMo 11 = nI m ∧ gp R' lMo 22 = nI q ∧ q < m))) : okA T (F_154 T M) (fun T' => F_120 T') := by
  obtain ⟨m1, m2, m3, m4, m5, m6, m7⟩ := Mc1_g (M := M)
  have e154 := cls_no h32 (by omega) t2
  have gC : ∀ l : kLb, l ≠ lRd → l ≠ lD → (l.1 < 15 ∨ 20 < l.1) → gp C1 l = gp M l := fun l x y z => by rw [fc.1 l x (by omega), m6 l y x]
  have gX : ∀ l : kLb, l ≠ lRd → l ≠ lRu → gp (sp (sq (sp C1 lRd 1 0) lD 6 none) lRu 1 0) l = gp C1 l := fun l x y => by rw [gp_sp_ne y, gp_sq, gp_sp_ne x]
  have gXr : gp (sp (sq (sp C1 lRd 1 0) lD 6 none) lRu 1 0) lRd = upd (gp C1 lRd) 1 0 := by rw [gp_sp_ne (by simp), gp_sq, gp_sp]
  have gXu : gp (sp (sq (sp C1 lRd 1 0) lD 6 none) lRu 1 0) lRu 1 = 0 := by simp (disch := omega) only [gp_ne, gpa_ne, gp_sp, gp_sa, upd_eq, upd_ne, gq_sp, gq_sa]
  have gXq : ∀ l, l ≠ lD → gq (sp (sq (sp C1 lRd 1 0) lD 6 none) lRu 1 0) l = gq C1 l := fun l x => by rw [gq_sp, gq_sq_ne x]; rfl
  have gX6 : gq (sp (sq (sp C1 lRd 1 0) lD 6 none) lRu 1 0) lD 6 = none := by rw [gq_sp, gq_sq, va_up_self]
  generalize sp (sq (sp C1 lRd 1 0) lD 6 none) lRu 1 0 = X at *
  have xMo : gp X lMo = gp M lMo := by rw [gX lMo (by simp) (by simp), gC lMo (by simp) (by simp) (by simp)]
  have xMa : ∀ j, gp X (lMa j) = gp M (lMa j) := fun j => by rw [gX (lMa j) (by simp) (by simp), gC (lMa j) (by simp) (by simp) (by simp)]
  obtain ⟨R', o1, o2, o3⟩ := hR X xMo (xMa 12) (xMa 2) (xMa 3)
  have ro := ref_open (T := T1) hm (by rw [xMo]; exact hm2) ((Oo_T T1 T 0 _).trans o1)
  have r1 : ∃ R1, F_120 T1 X = some (0, sp (sp (sp R1 lMo 11 0) lMo 14 (nI q)) lMo 0 1) ∧ frU 0 0 (Yr m X) R1 := by
    rcases o3 with z | ⟨z1, z2, z3, z4⟩
    · rw [z, if_pos (pn_ge0 (by omega)), ref_88f hq z] at ro
      exact ⟨R', ro, o2⟩
    · have z5 : gp (sp R' lMo 23 (nI q)) lMo 23 = nI q := by simp (disch := omega) only [gp_ne, gpa_ne, gp_sp, gp_sa, upd_eq, upd_ne, gq_sp, gq_sa]
      rw [z1, if_neg (by decide), z2, z3, if_neg (by rw [pn_le (by omega) (by omega)]; omega)] at ro
      unfold F_112 at ro
      rw [z1, if_neg (by decide), kBd_s, ref_88f hq z5] at ro
      exact ⟨_, ro, frU_tr o2 (frU_mo (by omega))⟩
  obtain ⟨R1, e120, fr⟩ := r1
  obtain ⟨y1, y2, y3, y4, y5, y6, y7, y8, y9⟩ := Yr_mo (m := m) (X := X)
  have gR : ∀ l : kLb, l ≠ lMo → l ≠ lMa 13 → (l.1 ≠ 21 ∨ ¬ (l.2 = 17 ∨ l.2 = 18 ∨ l.2 = 19 ∨ l.2 = 20 ∨ l.2 = 21 ∨ l.2 = 32 ∨ l.2 = 33 ∨ l.2 = 34)) → gp (sp (sp (sp R1 lMo 11 0) lMo 14 (nI q)) lMo 0 1) l = gp X l := fun l x y z => by
    rw [gp_sp_ne x, gp_sp_ne x, gp_sp_ne x, fr.2.1 l x z, y8 l x y]
  have gRo : ∀ k, k ≠ 0 → k ≠ 11 → k ≠ 14 → k ≠ 16 → k ≠ 22 → k ≠ 23 → gp (sp (sp (sp R1 lMo 11 0) lMo 14 (nI q)) lMo 0 1) lMo k = gp (Yr m X) lMo k := fun k a b c d e f => by
    simp (disch := omega) only [gp_ne, gpa_ne, gp_sp, gp_sa, upd_eq, upd_ne, gq_sp, gq_sa]; exact fr.2.2.1 k d e f
  have gq2 : ∀ l, gq (sp (sp (sp R1 lMo 11 0) lMo 14 (nI q)) lMo 0 1) l = gq X l := fun l => by
    unfold gq
    show R1.2.1 l = _
    rw [fr.1]; rfl
  have u0 : gp (sp (sp (sp R1 lMo 11 0) lMo 14 (nI q)) lMo 0 1) lMo 0 = 1 := by simp (disch := omega) only [gp_ne, gpa_ne, gp_sp, gp_sa, upd_eq, upd_ne, gq_sp, gq_sa]
  have u11 : gp (sp (sp (sp R1 lMo 11 0) lMo 14 (nI q)) lMo 0 1) lMo 11 = 0 := by simp (disch := omega) only [gp_ne, gpa_ne, gp_sp, gp_sa, upd_eq, upd_ne, gq_sp, gq_sa]
  have u14 : gp (sp (sp (sp R1 lMo 11 0) lMo 14 (nI q)) lMo 0 1) lMo 14 = nI q := by simp (disch := omega) only [gp_ne, gpa_ne, gp_sp, gp_sa, upd_eq, upd_ne, gq_sp, gq_sa]
  generalize sp (sp (sp R1 lMo 11 0) lMo 14 (nI q)) lMo 0 1 = M2 at *
  have uRd : gp M2 lRd = upd (gp C1 lRd) 1 0 := by rw [gR lRd (by simp) (by simp) (by simp), gXr]
  refine ⟨1, T1, X, 0, M2, e154, e120, u0, fun z => absurd z (by decide), prep_iv h t1 (fun l x y => ?_) (fun k hk => ?_) ?_ ?_ u11 ?_ ?_ ?_ ?_ (Or.inl ⟨?_, ?_⟩) (iZ_of st (fun l x => by rw [gq2, gXq l x]) (Or.inl ?_)) ?_ ?_, by omega, t2⟩
  · rw [gR l y (fun z => by rw [z] at x; simp at x) (by omega), gX l (fun z => by rw [z] at x; simp at x) (fun z => by rw [z] at x; simp at x), gC l (fun z => by rw [z] at x; simp at x) (fun z => by rw [z] at x; simp at x) (by omega)]
  · rw [gRo k (by omega) (by omega) (by omega) (by omega) (by omega) (by omega), y7 k (by omega) (by omega) (by omega) (by omega) (by omega) (by omega), xMo]
  · rw [gq2, gXq lAl (by simp), fc.2.1 lAl (by simp) (by simp), m7]
  · rw [uRd, upd_eq]
  · rw [uRd, upd_ne (by decide), u14, g2]
  · rw [gR lD (by simp) (by simp) (by simp), gX lD (by simp) (by simp), fc.1 lD (by simp) (by simp), m5]
  · rw [gRo 31 (by decide) (by decide) (by decide) (by decide) (by decide) (by decide), y6]
  · rw [gR lRu (by simp) (by simp) (by simp), gXu, gRo 24 (by decide) (by decide) (by decide) (by decide) (by decide) (by decide), y5]
  · rw [gq2, gX6]
  · rw [gRo 15 (by decide) (by decide) (by decide) (by decide) (by decide) (by decide), y4]
  · rw [gq2, gX6]
  · rw [gR lTs (by simp) (by simp) (by simp), gX lTs (by simp) (by simp), gC lTs (by simp) (by simp) (by simp)]
  · rw [gR lHa (by simp) (by simp) (by simp), gX lHa (by simp) (by simp), gC lHa (by simp) (by simp) (by simp)]
