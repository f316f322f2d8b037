/-! prepare -/
def Mc1 (M : kM) : kM := sp (sp (sp (sp M lD 5 0) lRd 3 0) lRd 5 0) lRd 2 (-1)
set_option maxHeartbeats 4000000 in
theorem Mc1_g {M : kM} : gp (Mc1 M) lRd 1 = gp M lRd 1 ∧ gp (Mc1 M) lRd 2 = -1 ∧ gp (Mc1 M) lRd 3 = 0 ∧ gp (Mc1 M) lRd 5 = 0 ∧ gp (Mc1 M) lD 5 = 0 ∧ (∀ l, l ≠ lD → l ≠ lRd → gp (Mc1 M) l = gp M l) ∧ (∀ l, gq (Mc1 M) l = gq M l) := by
  unfold Mc1
  refine ⟨by simp (disch := omega) only [gp_ne, gpa_ne, gp_sp, gp_sa, upd_eq, upd_ne, gq_sp, gq_sa], by simp (disch := omega) only [gp_ne, gpa_ne, gp_sp, gp_sa, upd_eq, upd_ne, gq_sp, gq_sa], by simp (disch := omega) only [gp_ne, gpa_ne, gp_sp, gp_sa, upd_eq, upd_ne, gq_sp, gq_sa], by simp (disch := omega) only [gp_ne, gpa_ne, gp_sp, gp_sa, upd_eq, upd_ne, gq_sp, gq_sa], by simp (disch := omega) only [gp_ne, gpa_ne, gp_sp, gp_sa, upd_eq, upd_ne, gq_sp, gq_sa], fun l a b => by rw [gp_sp_ne b, gp_sp_ne b, gp_sp_ne b, gp_sp_ne a], fun l => rfl⟩
set_option maxHeartbeats 4000000 in
theorem prep_read {T : kT} {M X : kM} {m : Nat} (h : iNv T M) (hm : m ≤ 60) (hm1 : gp M lRd 1 = nI m) (hm2 : gp M lMo 11 = nI m) (hmw : ∀ k, k < m → gp M lWo k = gp M (lMa 12) k) (x1 : gp X lMo = gp M lMo) (x2 : gp X (lMa 12) = gp M (lMa 12)) (x3 : gp X (lMa 2) = gp M (lMa 2)) (x4 : gp X (lMa 3) = gp M (lMa 3)) :
    noR T m 0 0 (Mc1 M) (Yr m X) (F_38r T 12 0 (Mc1 M)) (Oo T 0 (Yr m X)) ∨ okR T (tS T M) m 0 0 0 0 (Mc1 M) (Yr m X) (F_38r T 12 0 (Mc1 M)) (Oo T 0 (Yr m X)) := by
  obtain ⟨a, b, c, d⟩ := h
  obtain ⟨y1, y2, y3, y4, y5, y6, y7, y8, y9⟩ := Yr_mo (m := m) (X := X)
  obtain ⟨g1, g2, g3, g4, g5, g6, g7⟩ := Mc1_g (M := M)
  have rs : RS m 0 (Mc1 M) (Yr m X) := by
    refine ⟨hm, Nat.zero_le _, by rw [g1]; exact hm1, ?_, g3, y1, g2, y2, fun k hk => ?_, fun k hk => ?_⟩
    · rw [y7 11 (by decide) (by decide) (by decide) (by decide) (by decide) (by decide), x1]; exact hm2
    · show gp (Mc1 M) lWo k = gp (Yr m X) (lMa 13) k
      rw [y9 k hk, g6 lWo (by simp) (by simp), x2]; exact hmw k hk
    · show gp (Yr m X) (lMa 12) k = gp (Yr m X) (lMa 13) k
      rw [y9 k hk, y8 (lMa 12) (by simp) (by simp)]
  have st : stT T 0 (Mc1 M) := by
    obtain ⟨d1, d2, d3, d4, d5⟩ := d
    refine ⟨d1, d2, Nat.zero_le _, g4, by rw [g7]; exact d3, by rw [g7]; exact d4, kQl_cg g7 d5, by rw [g6 lTs (by simp) (by simp)]; exact a.1.1, by rw [g7]; exact a.2.1⟩
  have tb : tbO T (tS T M) (Mc1 M) (Yr m X) := by
    refine ⟨d.1, rfl, ?_, fun j hj => ?_⟩
    · rw [y7 1 (by decide) (by decide) (by decide) (by decide) (by decide) (by decide), x1]; exact a.1.2
    · obtain ⟨a1, a2, a3, a4, a5, a6, a7, a8, a9, a10⟩ := tS_j a hj
      rw [g6 (lTb j) (by simp) (by simp), g6 (lTx j) (by simp) (by simp), y8 (lMa 2) (by simp) (by simp), y8 (lMa 3) (by simp) (by simp), x3, x4]
      exact ⟨a1, a2, a5, a6, a10⟩
  have := rd_all 12 T (tS T M) m 0 0 0 0 0 (Mc1 M) (Yr m X) (by omega) (by omega) rs st y3 (Nat.le_refl _) tb (fun _ => rfl) (fun z => absurd rfl z)
  unfold lnk at this
  rw [if_pos rfl] at this
  exact this
set_option maxHeartbeats 4000000 in
theorem prep_iv {T T1 : kT} {M M2 : kM} (h : iNv T M) (t1 : T1.1 = T.1) (hl : ∀ l : kLb, l.1 = 1 ∨ l.1 = 3 ∨ (11 ≤ l.1 ∧ l.1 ≤ 14) ∨ (l.1 = 21 ∧ (l.2 = 2 ∨ l.2 = 3 ∨ l.2 = 4 ∨ l.2 = 5 ∨ l.2 = 6 ∨ l.2 = 9 ∨ l.2 = 10)) → l ≠ lMo → gp M2 l = gp M l) (hmo : ∀ k, k = 1 ∨ k = 7 ∨ k = 8 → gp M2 lMo k = gp M lMo k) (hal : gq M2 lAl = gq M lAl) (w0 : gp M2 lRd 1 = 0) (w1 : gp M2 lMo 11 = 0) (pl : gp M2 lRd 2 = gp M2 lMo 14) (l0 : gp M2 lD 5 = 0) (l1 : gp M2 lMo 31 = 0) (c : gp M2 lRu 1 = gp M2 lMo 24) (hq : iQ T1 M2) (hz : iZ T1 M2) (hts : gp M2 lTs = gp M lTs) (hha : gp M2 lHa = gp M lHa) : iNv T1 M2 := by
  obtain ⟨a, b, -, -⟩ := h
  have a' : iA T1 M := by unfold iA at *; rw [t1]; exact a
  refine ⟨iA_cg hts (fun a j x y => hl (a, j) (by simp only; omega) (by simp only [ne_eq, Prod.mk.injEq]; omega)) (fun j hj => hl (lMa j) (by rcases hj with rfl | rfl | rfl | rfl | rfl | rfl <;> simp) (by simp)) (hmo 1 (by omega)) (hmo 7 (by omega)) (hmo 8 (by omega)) hal a', ⟨?_, ⟨0, by omega, w0, w1, fun k hk => absurd hk (Nat.not_lt_zero _)⟩, pl, ⟨0, by omega, l0, l1, fun k hk => absurd hk (Nat.not_lt_zero _)⟩, c⟩, hq, hz⟩
  rw [hha, hl (lMa 6) (by simp) (by simp)]; exact b.1
set_option maxHeartbeats 4000000 in
theorem iZ_of {T1 : kT} {n : Nat} {C1 M2 : kM} (st : stT T1 n C1) (hq : ∀ l, l ≠ lD → gq M2 l = gq C1 l) (hd : gq M2 lD 6 = none ∨ (gq M2 lD 6 = some 0 ∧ 0 < T1.2)) : iZ T1 M2 := by
  obtain ⟨a, b, c, d, e, f, i, j, k⟩ := st
  obtain ⟨q1, q2, q3, q4⟩ := i
  refine ⟨a, b, by rw [hq lTe (by simp)]; exact e, by rw [hq lTe (by simp)]; exact f, fun j hj => ?_, by rw [hq lAl (by simp)]; exact q2, by rw [hq lTe (by simp)]; exact q3, fun i hi => by rw [hq (lTm i) (by simp)]; exact q4 i hi⟩
  rcases hd with z | z
  · rw [z] at hj; cases hj
  · rw [z.1] at hj; cases hj; exact z.2
set_option maxHeartbeats 4000000 in
theorem f32_f1 {T T1 : kT} {M C1 : kM} (h : F_38r T 12 0 (Mc1 M) = some (none, T1, C1)) (dead : ¬ gp C1 lRd 2 = -1) (l1 : T.1 ≤ T1.1) (l2 : T.2 ≤ T1.2) : F_32 T (sp M lD 5 0) = some (none, T1, sp C1 lRd 1 0) := by
  have e41 : F_32_41 T1 none C1 = some (none, T1, sp C1 lRd 1 0) := by
    unfold F_32_41 F_33
    rw [show gp (sp C1 lRd 1 0) lRd 2 = gp C1 lRd 2 by simp (disch := omega) only [gp_ne, gpa_ne, gp_sp, gp_sa, upd_eq, upd_ne, gq_sp, gq_sa], if_neg dead, kBd_s, if_neg (by decide)]
  unfold F_32
  show kBt (F_38r T 12 0 (Mc1 M)) _ = _
  rw [h, kBt_s]
  unfold F_34
  rw [if_neg dead, kBd_s, e41]
  by_cases q : gp C1 lRd 1 ≤ gp C1 lRd 3
  · rw [if_pos q]; exact kCh_s l1 l2 (Nat.le_refl _) (Nat.le_refl _)
  · rw [if_neg q]; exact kCh_s l1 l2 (Nat.le_refl _) (Nat.le_refl _)
set_option maxHeartbeats 4000000 in
theorem f32_f2 {T T1 : kT} {M C1 : kM} {m p : Nat} {r : Option Nat} (h : F_38r T 12 0 (Mc1 M) = some (r, T1, C1)) (g2 : gp C1 lRd 2 = -1) (g1 : gp C1 lRd 1 = nI m) (g3 : gp C1 lRd 3 = nI p) (hm : m ≤ 60) (hp : p < m) (l1 : T.1 ≤ T1.1) (l2 : T.2 ≤ T1.2) : F_32 T (sp M lD 5 0) = some (none, T1, sp (sp C1 lRd 2 (nI p)) lRd 1 0) := by
  have e41 : F_32_41 T1 r (sp C1 lRd 2 (nI p)) = some (none, T1, sp (sp C1 lRd 2 (nI p)) lRd 1 0) := by
    unfold F_32_41 F_33
    rw [show gp (sp (sp C1 lRd 2 (nI p)) lRd 1 0) lRd 2 = nI p by simp (disch := omega) only [gp_ne, gpa_ne, gp_sp, gp_sa, upd_eq, upd_ne, gq_sp, gq_sa], if_neg (pn_ne1 (by omega)), kBd_s, if_neg (by decide)]
  unfold F_32
  show kBt (F_38r T 12 0 (Mc1 M)) _ = _
  rw [h, kBt_s]
  unfold F_34
  rw [if_pos g2, kBd_s, g3, e41, g1, if_neg (by rw [pn_le (by omega) (by omega)]; omega)]
  exact kCh_s l1 l2 (Nat.le_refl _) (Nat.le_refl _)
set_option maxHeartbeats 4000000 in
theorem f32_ok {T T1 : kT} {M C1 : kM} {m : Nat} {r : Option Nat} (h : F_38r T 12 0 (Mc1 M) = some (r, T1, C1)) (g2 : gp C1 lRd 2 = -1) (g1 : gp C1 lRd 1 = nI m) (g3 : gp C1 lRd 3 = nI m) (hm : m ≤ 60) (l1 : T.1 ≤ T1.1) (l2 : T.2 ≤ T1.2) : F_32 T (sp M lD 5 0) = some (r, T1, sp C1 lRd 1 0) := by
  have e41 : F_32_41 T1 r C1 = some (r, T1, sp C1 lRd 1 0) := by
    unfold F_32_41 F_33
    rw [show gp (sp C1 lRd 1 0) lRd 2 = -1 by simp (disch := omega) only [gp_ne, gpa_ne, gp_sp, gp_sa, upd_eq, upd_ne, gq_sp, gq_sa]; exact g2, if_pos rfl, kBd_s, if_pos rfl]
  unfold F_32
  show kBt (F_38r T 12 0 (Mc1 M)) _ = _
  rw [h, kBt_s, e41, g1, g3, if_pos (by rw [pn_le (by omega) (by omega)]; omega)]
  exact kCh_s l1 l2 (Nat.le_refl _) (Nat.le_refl _)
set_option maxHeartbeats 4000000 in
theorem cls_no {T T1 : kT} {M C' : kM} (h : F_32 T (sp M lD 5 0) = some (none, T1, C')) (l1 : T.1 ≤ T1.1) (l2 : T.2 ≤ T1.2) : F_154 T M = some (1, T1, sp (sq C' lD 6 none) lRu 1 0) := by
  have g6 : gq (sq C' lD 6 none) lD 6 = none := by rw [gq_sq, va_up_self]
  have g6' : gq (sp (sq C' lD 6 none) lRu 1 0) lD 6 = none := g6
  have e46 : F_46 T1 none (sq C' lD 6 none) = some ((), sp (sq C' lD 6 none) lRu 1 0) := rfl
  have e12 : F_12 T M = some (.inl 0, T1, sp (sq C' lD 6 none) lRu 1 0) := by
    unfold F_12
    rw [h, kBt_s, g6, e46, kBd_s, g6', kOpt_n]
    exact kCh_s l1 l2 (Nat.le_refl _) (Nat.le_refl _)
  unfold F_154
  rw [e12, kBt_s]
  show kCh T T1 (some (1, T1, _)) = _
  exact kCh_s l1 l2 (Nat.le_refl _) (Nat.le_refl _)
set_option maxHeartbeats 4000000 in
theorem cls_ok {T T1 : kT} {M C' C2 : kM} (h : F_32 T (sp M lD 5 0) = some (some 0, T1, C')) (h2 : F_48r T1 12 (some 0) 0 (sp (sq C' lD 6 (some 0)) lRu 1 0) = some ((), C2)) (h3 : gq C2 lD 6 = some 0) (h4 : 0 < T1.2) (l1 : T.1 ≤ T1.1) (l2 : T.2 ≤ T1.2) : F_154 T M = some (0, T1, so C2 0 (gp C2 (lTm 0) 9).toInt64) := by
  have g6 : gq (sq C' lD 6 (some 0)) lD 6 = some 0 := by rw [gq_sq, va_up_self]
  have e46 : F_46 T1 (some 0) (sq C' lD 6 (some 0)) = some ((), C2) := by
    unfold F_46
    rw [h2, kBd_s]
  have e12 : F_12 T M = some (.inr (gp C2 (lTm 0) 9), T1, C2) := by
    unfold F_12
    rw [h, kBt_s, g6, e46, kBd_s, h3, kOpt_s, lv_tm h4, kGd_t]
    exact kCh_s l1 l2 (Nat.le_refl _) (Nat.le_refl _)
  unfold F_154
  rw [e12, kBt_s]
  show kCh T T1 (some (0, T1, _)) = _
  exact kCh_s l1 l2 (Nat.le_refl _) (Nat.le_refl _)
