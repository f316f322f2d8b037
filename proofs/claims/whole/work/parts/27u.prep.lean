/-! prepare: the reference -/
def Yr (m : Nat) (X : kM) : kM := sp (sp (sp (sp (sp (sp (sa X (lMa 13) (fl (gp X (lMa 13)) 0 m (gp X (lMa 12)))) lMo 22 0) lMo 23 (-1)) lMo 16 0) lMo 15 0) lMo 24 0) lMo 31 0
set_option maxHeartbeats 4000000 in
theorem ref_copy {T : kT} {m : Nat} {X : kM} (hm : m ≤ 60) (hw : gp X lMo 11 = nI m) : F_120 T X = F_120_2 T (nI m) (sa X (lMa 13) (fl (gp X (lMa 13)) 0 m (gp X (lMa 12)))) := by
  unfold F_120
  refine fill (G := fun c M => F_120_2 T (nI c) M) (K := fun M => F_120_2 T (nI m) M) (l := lMa 13) (d := 0) (w := m) (src := gp X (lMa 12)) (fun f c hc _ => ?_) (fun f => rfl)
  have e11 : gp (sa X (lMa 13) f) lMo 11 = nI m := by simp (disch := omega) only [gp_ne, gpa_ne, gp_sp, gp_sa, upd_eq, upd_ne, gq_sp, gq_sa]; exact hw
  have e12 : gp (sa X (lMa 13) f) (lMa 12) = gp X (lMa 12) := by simp (disch := omega) only [gp_ne, gpa_ne, gp_sp, gp_sa, upd_eq, upd_ne, gq_sp, gq_sa]
  show F_120_2 T (nI c) (sa X (lMa 13) f) = F_120_2 T (nI (c + 1)) (sa X (lMa 13) (upd f (0 + c) (gp X (lMa 12) c)))
  rw [F_120_2_eq]
  unfold B_120_2
  rw [e11, if_neg (by rw [pn_le (by omega) (by omega)]; omega), kGx_nI (by omega) (by omega), kGx_nI (by omega) (by omega), pn_nat (by omega), kAg_l, pn_addL, e12]
  show F_120_2 T (nI (c + 1)) (sp (sa X (lMa 13) f) (lMa 13) c (gp X (lMa 12) c)) = _
  unfold sp
  rw [gp_sa, sa_sa, Nat.zero_add]
set_option maxHeartbeats 4000000 in
theorem ref_open {T : kT} {m : Nat} {X R' : kM} (hm : m ≤ 60) (hw : gp X lMo 11 = nI m) (hO : Oo T 0 (Yr m X) = some ((), R')) : F_120 T X = (if 0 ≤ gp R' lMo 23 then F_120_88 T R' else if gp R' lMo 11 ≤ gp R' lMo 22 then F_120_88 T R' else kBd (F_112 T (gp R' lMo 22) R') (fun _ M => F_120_88 T M)) := by
  have e11 : gp (sa X (lMa 13) (fl (gp X (lMa 13)) 0 m (gp X (lMa 12)))) lMo 11 = nI m := by simp (disch := omega) only [gp_ne, gpa_ne, gp_sp, gp_sa, upd_eq, upd_ne, gq_sp, gq_sa]; exact hw
  have e115 : F_115 T (Yr m X) = some ((), R') := hO
  have kl : ∀ x : Option (Int32 × kM), kAg (kLf x) (fun w : Int32 × kM => F_120_2 T w.1 w.2) = x := fun x => by cases x <;> rfl
  rw [ref_copy hm hw, F_120_2_eq]
  unfold B_120_2
  rw [e11, if_pos (by rw [pn_le (by omega) (by omega)]; omega)]
  show kAg (kBd (F_115 T (Yr m X)) _) _ = _
  rw [e115, kBd_s]
  by_cases q : 0 ≤ gp R' lMo 23
  · rw [if_pos q, if_pos q, kl]
  · rw [if_neg q, if_neg q]
    by_cases q2 : gp R' lMo 11 ≤ gp R' lMo 22
    · rw [if_pos q2, if_pos q2, kl]
    · rw [if_neg q2, if_neg q2]
      unfold F_112
      rw [if_neg q, kBd_s, kBd_s, kl]
set_option maxHeartbeats 4000000 in
theorem ref_88f {T : kT} {q : Nat} {R' : kM} (hq : q ≤ 60) (h : gp R' lMo 23 = nI q) : F_120_88 T R' = some (0, sp (sp (sp R' lMo 11 0) lMo 14 (nI q)) lMo 0 1) := by
  have e1 : gp (sp R' lMo 11 0) lMo 23 = nI q := by simp (disch := omega) only [gp_ne, gpa_ne, gp_sp, gp_sa, upd_eq, upd_ne, gq_sp, gq_sa]; exact h
  have e2 : gp (sp (sp R' lMo 11 0) lMo 14 (nI q)) lMo 23 = nI q := by simp (disch := omega) only [gp_ne, gpa_ne, gp_sp, gp_sa, upd_eq, upd_ne, gq_sp, gq_sa]; exact h
  unfold F_120_88 F_120_114
  rw [e1, e2, if_pos (pn_ge0 (by omega)), says0, kBd_s, if_pos rfl]
def Zr (R' : kM) : kM := sp (sp (sp (sp (sp (sp R' lMo 11 0) lMo 14 (-1)) lMo 0 0) lMo 15 1) lMo 35 0) lMo 36 1
set_option maxHeartbeats 4000000 in
theorem ref_88t {T : kT} {R' M' : kM} (h : gp R' lMo 23 = -1) (h2 : F_122 T 0 (Zr R') = some ((), M')) : F_120_88 T R' = some (gp M' (lMa 21) 0, M') := by
  have e1 : gp (sp R' lMo 11 0) lMo 23 = -1 := by simp (disch := omega) only [gp_ne, gpa_ne, gp_sp, gp_sa, upd_eq, upd_ne, gq_sp, gq_sa]; exact h
  have e2 : gp (sp (sp R' lMo 11 0) lMo 14 (-1)) lMo 23 = -1 := by simp (disch := omega) only [gp_ne, gpa_ne, gp_sp, gp_sa, upd_eq, upd_ne, gq_sp, gq_sa]; exact h
  unfold F_120_88 F_120_114
  rw [e1, e2, if_neg (by decide), says1, kBd_s, if_neg (by decide)]
  show kBd (F_122 T 0 (Zr R')) _ = _
  rw [h2, kBd_s]
  rfl
set_option maxHeartbeats 4000000 in
theorem Yr_mo {m : Nat} {X : kM} : gp (Yr m X) lMo 22 = 0 ∧ gp (Yr m X) lMo 23 = -1 ∧ gp (Yr m X) lMo 16 = 0 ∧ gp (Yr m X) lMo 15 = 0 ∧ gp (Yr m X) lMo 24 = 0 ∧ gp (Yr m X) lMo 31 = 0 ∧ (∀ k, k ≠ 22 → k ≠ 23 → k ≠ 16 → k ≠ 15 → k ≠ 24 → k ≠ 31 → gp (Yr m X) lMo k = gp X lMo k) ∧ (∀ l, l ≠ lMo → l ≠ lMa 13 → gp (Yr m X) l = gp X l) ∧ (∀ k, k < m → gp (Yr m X) (lMa 13) k = gp X (lMa 12) k) := by
  unfold Yr
  refine ⟨by simp (disch := omega) only [gp_ne, gpa_ne, gp_sp, gp_sa, upd_eq, upd_ne, gq_sp, gq_sa], by simp (disch := omega) only [gp_ne, gpa_ne, gp_sp, gp_sa, upd_eq, upd_ne, gq_sp, gq_sa], by simp (disch := omega) only [gp_ne, gpa_ne, gp_sp, gp_sa, upd_eq, upd_ne, gq_sp, gq_sa], by simp (disch := omega) only [gp_ne, gpa_ne, gp_sp, gp_sa, upd_eq, upd_ne, gq_sp, gq_sa], by simp (disch := omega) only [gp_ne, gpa_ne, gp_sp, gp_sa, upd_eq, upd_ne, gq_sp, gq_sa], by simp (disch := omega) only [gp_ne, gpa_ne, gp_sp, gp_sa, upd_eq, upd_ne, gq_sp, gq_sa], fun k a b c d e f => by simp (disch := omega) only [gp_ne, gpa_ne, gp_sp, gp_sa, upd_eq, upd_ne, gq_sp, gq_sa], fun l a b => by rw [gp_sp_ne a, gp_sp_ne a, gp_sp_ne a, gp_sp_ne a, gp_sp_ne a, gp_sp_ne a, gp_sa_ne b], fun k hk => ?_⟩
  simp (disch := omega) only [gp_ne, gpa_ne, gp_sp, gp_sa, upd_eq, upd_ne, gq_sp, gq_sa]
  have := fl_in (g := gp X (lMa 13)) (d := 0) (src := gp X (lMa 12)) hk
  rwa [Nat.zero_add] at this
set_option maxHeartbeats 4000000 in
theorem Yr_2 {m : Nat} {X : kM} : (Yr m X).2 = X.2 := rfl
/-! the tables' picture -/
def tS (T : kT) (M : kM) : kS := (fun i j => if i = 17 then T.1 else if i = 12 then (gp M (lTb j) 0).toNatClampNeg else if i = 11 then (gp M (lTb j) 4).toNatClampNeg else 0, fun _ j x => gp M (lMa 5) (j * 240 + x))
set_option maxHeartbeats 4000000 in
theorem tS_j {T : kT} {M : kM} {j : Nat} (h : iA T M) (hj : j < T.1) : gp M (lTb j) 0 = nI (tw (tS T M) j) ∧ gp M (lMa 2) j = nI (tw (tS T M) j) ∧ gp M (lTb j) 4 = nI (tr (tS T M) j) ∧ gp M (lMa 4) j = nI (tr (tS T M) j) ∧ 1 ≤ tw (tS T M) j ∧ tw (tS T M) j ≤ 6 ∧ tr (tS T M) j ≤ 40 ∧ (∀ r c, r < tr (tS T M) j → c < tw (tS T M) j → gp M (lTc j) (r * tw (tS T M) j + c) = ce (tS T M) j r c) ∧ (∀ r c, r < tr (tS T M) j → c < tw (tS T M) j → gp M (lMa 5) ((j * 40 + r) * 6 + c) = ce (tS T M) j r c) ∧ (∀ c, c < tw (tS T M) j → gp M (lTx j) c = gp M (lMa 3) (j * 6 + c)) := by
  obtain ⟨w, r, w1, w6, r40, e1, e2, e3, e4, e5, e6⟩ := h.2.2.1 j hj
  have tw' : tw (tS T M) j = w := by show (gp M (lTb j) 0).toNatClampNeg = w; rw [e1, pn_nat (by omega)]
  have tr' : tr (tS T M) j = r := by show (gp M (lTb j) 4).toNatClampNeg = r; rw [e3, pn_nat (by omega)]
  have ce' : ∀ r c, ce (tS T M) j r c = gp M (lMa 5) ((j * 40 + r) * 6 + c) := fun r c => by
    show gp M (lMa 5) (j * 240 + (r * 6 + c)) = _
    rw [show j * 240 + (r * 6 + c) = (j * 40 + r) * 6 + c by omega]
  rw [tw', tr']
  refine ⟨e1, e2, e3, e4, w1, w6, r40, fun r c hr hc => ?_, fun r c hr hc => ?_, e6⟩
  · rw [ce']; exact e5 r c hr hc
  · rw [ce']
set_option maxHeartbeats 4000000 in
theorem tS_nt {T : kT} {M : kM} : nt (tS T M) = T.1 := rfl
set_option maxHeartbeats 4000000 in
theorem sOk_of {T : kT} {M C R : kM} {S' : kS} {n : Nat} (hA : iA T M) (hT : T.1 ≤ 6) (tg : tagr (tS T M) S') (hd : dn S' 0 n C R) (hn : n ≤ 60) : sOk S' n := by
  have e17 : nt S' = T.1 := tg.2.1 0
  refine ⟨hn, by omega, fun j hj => ?_, fun t ht => (hd t (Nat.zero_le _) ht).2.2⟩
  obtain ⟨-, -, -, -, a, b, c, -⟩ := tS_j hA (show j < T.1 by omega)
  have e1 : tw S' j = tw (tS T M) j := (tg.1 j).2
  have e2 : tr S' j = tr (tS T M) j := (tg.1 j).1
  rw [e1, e2]
  exact ⟨a, b, c⟩
set_option maxHeartbeats 4000000 in
theorem sC_of {T T' : kT} {M C R X : kM} {S' : kS} {n : Nat} (hA : iA T M) (tg : tagr (tS T M) S') (hd : dn S' 0 n C R) (hn : n ≤ T'.2) (hT : T.1 ≤ T'.1) (h1 : ∀ j, gp X (lTm j) = gp C (lTm j)) (h2 : ∀ j, gp X (lPk j) = gp C (lPk j)) (h3 : ∀ j, gq X (lTm j) = gq C (lTm j)) (h4 : ∀ j, gp X (lTb j) = gp M (lTb j)) (h5 : ∀ j, gp X (lTc j) = gp M (lTc j)) : sC T' S' n X := by
  have e17 : nt S' = T.1 := tg.2.1 0
  refine ⟨hn, by omega, fun t ht => ?_, fun j hj => ?_⟩
  · exact ndC_cg (h1 t) (h2 t) (h3 t) (hd t (Nat.zero_le _) ht).1
  · obtain ⟨a1, a2, a3, a4, a5, a6, a7, a8, a9, a10⟩ := tS_j hA (show j < T.1 by omega)
    have e1 : tw S' j = tw (tS T M) j := (tg.1 j).2
    have e2 : tr S' j = tr (tS T M) j := (tg.1 j).1
    have e3 : ∀ r c, ce S' j r c = ce (tS T M) j r c := fun r c => tg.2.2 j _
    rw [e1, e2, h4, h5]
    exact ⟨a1, a3, fun r c hr hc => by rw [e3]; exact a8 r c hr hc⟩
set_option maxHeartbeats 4000000 in
theorem sR_of {T : kT} {M C R X : kM} {S' : kS} {n : Nat} (hA : iA T M) (tg : tagr (tS T M) S') (hd : dn S' 0 n C R) (h1 : ∀ j, j = 17 ∨ j = 18 ∨ j = 19 ∨ j = 20 ∨ j = 21 ∨ j = 34 ∨ j = 13 ∨ j = 3 → gp X (lMa j) = gp R (lMa j)) (h2 : ∀ j, j = 2 ∨ j = 4 ∨ j = 5 → gp X (lMa j) = gp M (lMa j)) : sR S' n X := by
  have e17 : nt S' = T.1 := tg.2.1 0
  refine ⟨fun t ht => ?_, fun j hj => ?_⟩
  · exact ndR_cg (fun j hj => by rw [h1 j (by omega)]) (h1 13 (by omega)) (h1 3 (by omega)) (hd t (Nat.zero_le _) ht).2.1
  · obtain ⟨a1, a2, a3, a4, a5, a6, a7, a8, a9, a10⟩ := tS_j hA (show j < T.1 by omega)
    have e1 : tw S' j = tw (tS T M) j := (tg.1 j).2
    have e2 : tr S' j = tr (tS T M) j := (tg.1 j).1
    have e3 : ∀ r c, ce S' j r c = ce (tS T M) j r c := fun r c => tg.2.2 j _
    rw [e1, e2, h2 2 (by omega), h2 4 (by omega), h2 5 (by omega)]
    exact ⟨a2, a4, fun r c hr hc => by rw [e3]; exact a9 r c hr hc⟩
