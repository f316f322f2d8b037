set_option maxHeartbeats 4000000 in
theorem Oo_T (T T' : kT) (d : Nat) (R : kM) : Oo T d R = Oo T' d R := rfl
set_option maxHeartbeats 4000000 in
theorem Ii_T (T T' : kT) (d : Nat) (R : kM) : Ii T d R = Ii T' d R := rfl
set_option maxHeartbeats 4000000 in
theorem f116_T (T T' : kT) (x : Int32) (R : kM) : F_116 T x R = F_116 T' x R := rfl
set_option maxHeartbeats 4000000 in
theorem stT_N {T : kT} {n t : Nat} {C C' : kM} (h : frN t C C') (q : ∀ j, gq C' (lTm t) 6 = some j → gq C (lTm t) 6 = some j ∨ j < T.1) (st : stT T n C) : stT T n C' :=
  stT_cg (t := t) (h.2.2.1 5 (by decide) (by decide)) (by rw [h.1 lTs (by simp) (by simp) (by simp)]) (fun l z => h.2.2.2.1 l z) q (fun j z => Or.inl (by rw [h.2.2.2.2.1 7 (by decide)] at z; exact z)) (fun j z => Or.inl (by rw [h.2.2.2.2.1 8 (by decide)] at z; exact z)) st
set_option maxHeartbeats 4000000 in
theorem frU_0 {t d : Nat} {R R' : kM} (h : frU t d R R') : frU 0 0 R R' := frU_trans h (frU_refl 0 0 R') (Nat.zero_le _) (Nat.zero_le _) (Nat.zero_le _) (Nat.zero_le _)
set_option maxHeartbeats 4000000 in
theorem frU_le {t d t1 d1 : Nat} {R R' : kM} (h : frU t1 d1 R R') (h1 : t ≤ t1) (h2 : d ≤ d1) : frU t d R R' := frU_trans h (frU_refl t d R') h1 (Nat.le_refl _) h2 (Nat.le_refl _)
set_option maxHeartbeats 4000000 in
theorem frU_tr {t d : Nat} {A B C : kM} (h : frU t d A B) (g : frU t d B C) : frU t d A C := frU_trans h g (Nat.le_refl _) (Nat.le_refl _) (Nat.le_refl _) (Nat.le_refl _)
set_option maxHeartbeats 4000000 in
theorem frU_both {t d j k : Nat} {v : Int32} {A B : kM} (h : frU t d A B) : frU t d (sp A (lMa j) k v) (sp B (lMa j) k v) := by
  have pt : ∀ j' i, gp B (lMa j') i = gp A (lMa j') i → gp (sp B (lMa j) k v) (lMa j') i = gp (sp A (lMa j) k v) (lMa j') i := fun j' i z => by
    by_cases q : j' = j
    · subst q
      rw [gp_sp, gp_sp]
      by_cases q2 : i = k
      · rw [q2, upd_eq, upd_eq]
      · rw [upd_ne q2, upd_ne q2]; exact z
    · rw [gp_ne (by omega), gp_ne (by omega)]; exact z
  refine ⟨h.1, fun l x y => ?_, fun k a b c => ?_, fun j' hj k' hk => pt _ _ (h.2.2.2.1 j' hj k' hk), fun k' hk => pt _ _ (h.2.2.2.2.1 k' hk), fun k' hk => pt _ _ (h.2.2.2.2.2 k' hk)⟩
  · have := h.2.1 l x y
    by_cases q : l = lMa j
    · subst q
      rw [gp_sp, gp_sp, this]
    · rw [gp_sp_ne q, gp_sp_ne q, this]
  · simp (disch := omega) only [gp_ne, gpa_ne, gp_sp, gp_sa, upd_eq, upd_ne, gq_sp, gq_sa]; exact h.2.2.1 k a b c
/-- the parent's part is noted -/
def lnk0 (R : kM) (t d pp : Nat) : kM := if d = 0 then R else if 0 ≤ gp R (lMa 19) pp then sp R (lMa 20) pp (nI t) else sp R (lMa 19) pp (nI t)
def lnk (R : kM) (t d pp c : Nat) : kM := if d = 0 then R else sp (lnk0 R t d pp) (lMa 33) (d - 1) (nI c)
set_option maxHeartbeats 4000000 in
theorem hd0_fr {R : kM} {p t d : Nat} {x : Int32} : frU t d R (hd0 R p t x) := by
  unfold hd0
  exact frU_tr (frU_tr (frU_tr (frU_tr (frU_tr (frU_tr (frU_mo (by omega)) (frU_mo (by omega))) (frU_ma (by omega))) (frU_ma (by omega))) (frU_ma (by omega))) (frU_ma (by omega))) (frU_ma (by omega))
set_option maxHeartbeats 4000000 in
theorem hdR_fr {R : kM} {p t d pp : Nat} : frU t d (lnk0 R t d pp) (hdR R p t d pp) := by
  unfold hdR lnk0
  by_cases q : d = 0
  · rw [if_pos q, if_pos q]; exact hd0_fr
  · rw [if_neg q, if_neg q]
    by_cases q2 : 0 ≤ gp R (lMa 19) pp
    · rw [if_pos q2, if_pos q2]; exact frU_both hd0_fr
    · rw [if_neg q2, if_neg q2]; exact frU_both hd0_fr
set_option maxHeartbeats 4000000 in
theorem lnk0_fr {R : kM} {t d pp : Nat} : frU 0 0 R (lnk0 R t d pp) := by
  unfold lnk0
  by_cases q : d = 0
  · rw [if_pos q]; exact frU_refl _ _ _
  · rw [if_neg q]
    by_cases q2 : 0 ≤ gp R (lMa 19) pp
    · rw [if_pos q2]; exact frU_ma (by omega)
    · rw [if_neg q2]; exact frU_ma (by omega)
def opn (t d p pp c y : Nat) (a b : Int32) (R : kM) : Prop := gp R (lMa 17) t = nI p ∧ (d ≠ 0 → gp R (lMa 18) t = nI pp) ∧ gp R (lMa 19) t = a ∧ gp R (lMa 20) t = b ∧ gp R (lMa 32) d = nI t ∧ gp R (lMa 33) d = nI y ∧ (d ≠ 0 → gp R (lMa 33) (d - 1) = nI (c + 1))
set_option maxHeartbeats 4000000 in
theorem opn_fr {t d p pp c y : Nat} {a b : Int32} {R R' : kM} (h : frU (t + 1) (d + 1) R R') (g : opn t d p pp c y a b R) : opn t d p pp c y a b R' := by
  unfold opn at *
  have e := fun j hj => h.2.2.2.1 j hj t (by omega)
  rw [e 17 (by omega), e 18 (by omega), e 19 (by omega), e 20 (by omega), h.2.2.2.2.1 d (by omega), h.2.2.2.2.2 d (by omega), h.2.2.2.2.2 (d - 1) (by omega)]
  exact g
set_option maxHeartbeats 4000000 in
theorem opn_l1 {t d p pp c y t1 : Nat} {b : Int32} {R : kM} (g : opn t d p pp c (y + 1) (-1) b R) : opn t d p pp c y (nI t1) b (lnk R t1 (d + 1) t y) := by
  obtain ⟨a1, a2, a3, a4, a5, a6, a7⟩ := g
  unfold lnk lnk0
  rw [if_neg (by omega), if_neg (by omega), a3, if_neg (by decide), show d + 1 - 1 = d by omega]
  refine ⟨?_, fun z => ?_, ?_, ?_, ?_, ?_, fun z => ?_⟩
  · simp (disch := omega) only [gp_ne, gpa_ne, gp_sp, gp_sa, upd_eq, upd_ne, gq_sp, gq_sa]; exact a1
  · simp (disch := omega) only [gp_ne, gpa_ne, gp_sp, gp_sa, upd_eq, upd_ne, gq_sp, gq_sa]; exact a2 z
  · simp (disch := omega) only [gp_ne, gpa_ne, gp_sp, gp_sa, upd_eq, upd_ne, gq_sp, gq_sa]
  · simp (disch := omega) only [gp_ne, gpa_ne, gp_sp, gp_sa, upd_eq, upd_ne, gq_sp, gq_sa]; exact a4
  · simp (disch := omega) only [gp_ne, gpa_ne, gp_sp, gp_sa, upd_eq, upd_ne, gq_sp, gq_sa]; exact a5
  · simp (disch := omega) only [gp_ne, gpa_ne, gp_sp, gp_sa, upd_eq, upd_ne, gq_sp, gq_sa]
  · simp (disch := omega) only [gp_ne, gpa_ne, gp_sp, gp_sa, upd_eq, upd_ne, gq_sp, gq_sa]; exact a7 z
set_option maxHeartbeats 4000000 in
theorem opn_l2 {t d p pp c y t1 a : Nat} {b : Int32} {R : kM} (ha : a < 60) (g : opn t d p pp c (y + 1) (nI a) b R) : opn t d p pp c y (nI a) (nI t1) (lnk R t1 (d + 1) t y) := by
  obtain ⟨a1, a2, a3, a4, a5, a6, a7⟩ := g
  unfold lnk lnk0
  rw [if_neg (by omega), if_neg (by omega), a3, if_pos (pn_ge0 (by omega)), show d + 1 - 1 = d by omega]
  refine ⟨?_, fun z => ?_, ?_, ?_, ?_, ?_, fun z => ?_⟩
  · simp (disch := omega) only [gp_ne, gpa_ne, gp_sp, gp_sa, upd_eq, upd_ne, gq_sp, gq_sa]; exact a1
  · simp (disch := omega) only [gp_ne, gpa_ne, gp_sp, gp_sa, upd_eq, upd_ne, gq_sp, gq_sa]; exact a2 z
  · simp (disch := omega) only [gp_ne, gpa_ne, gp_sp, gp_sa, upd_eq, upd_ne, gq_sp, gq_sa]; exact a3
  · simp (disch := omega) only [gp_ne, gpa_ne, gp_sp, gp_sa, upd_eq, upd_ne, gq_sp, gq_sa]
  · simp (disch := omega) only [gp_ne, gpa_ne, gp_sp, gp_sa, upd_eq, upd_ne, gq_sp, gq_sa]; exact a5
  · simp (disch := omega) only [gp_ne, gpa_ne, gp_sp, gp_sa, upd_eq, upd_ne, gq_sp, gq_sa]
  · simp (disch := omega) only [gp_ne, gpa_ne, gp_sp, gp_sa, upd_eq, upd_ne, gq_sp, gq_sa]; exact a7 z
set_option maxHeartbeats 4000000 in
theorem lnk_fr {R : kM} {t d t1 y : Nat} : frU t d R (lnk R t1 (d + 1) t y) := by
  unfold lnk lnk0
  rw [if_neg (by omega), if_neg (by omega), show d + 1 - 1 = d by omega]
  by_cases q2 : 0 ≤ gp R (lMa 19) t
  · rw [if_pos q2]; exact frU_tr (frU_ma (by omega)) (frU_ma (by omega))
  · rw [if_neg q2]; exact frU_tr (frU_ma (by omega)) (frU_ma (by omega))
set_option maxHeartbeats 4000000 in
theorem lnk_end {R R' : kM} {t d pp c : Nat} (h : frU t d (lnk0 R t d pp) R') : frU t d (lnk R t d pp c) (if d = 0 then R' else sp R' (lMa 33) (d - 1) (nI c)) := by
  unfold lnk
  by_cases q : d = 0
  · rw [if_pos q, if_pos q]; unfold lnk0 at h; rw [if_pos q] at h; exact h
  · rw [if_neg q, if_neg q]; exact frU_both h
set_option maxHeartbeats 4000000 in
theorem hdR_opn {R : kM} {p t d pp c : Nat} (hp : d ≠ 0 → pp < t ∧ gp R (lMa 33) (d - 1) = nI (c + 1)) {R5 : kM} (h5 : relR (hdR R p t d pp) R5) (y : Nat) : opn t d p pp c y (-1) (-1) (sp (sp R5 (lMa 32) d (nI t)) (lMa 33) d (nI y)) := by
  have f := fun j => h5.1 (lMa j) (by simp)
  have g : gp (hdR R p t d pp) (lMa 17) t = nI p ∧ (d ≠ 0 → gp (hdR R p t d pp) (lMa 18) t = nI pp) ∧ gp (hdR R p t d pp) (lMa 19) t = -1 ∧ gp (hdR R p t d pp) (lMa 20) t = -1 ∧ gp (hdR R p t d pp) (lMa 33) = gp R (lMa 33) := by
    unfold hdR hd0
    by_cases q : d = 0
    · rw [if_pos q]
      refine ⟨by simp (disch := omega) only [gp_ne, gpa_ne, gp_sp, gp_sa, upd_eq, upd_ne, gq_sp, gq_sa], fun z => absurd q z, by simp (disch := omega) only [gp_ne, gpa_ne, gp_sp, gp_sa, upd_eq, upd_ne, gq_sp, gq_sa], by simp (disch := omega) only [gp_ne, gpa_ne, gp_sp, gp_sa, upd_eq, upd_ne, gq_sp, gq_sa], by simp (disch := omega) only [gp_ne, gpa_ne, gp_sp, gp_sa, upd_eq, upd_ne, gq_sp, gq_sa]⟩
    · have := (hp q).1
      rw [if_neg q]
      by_cases q2 : 0 ≤ gp R (lMa 19) pp
      · rw [if_pos q2]
        refine ⟨by simp (disch := omega) only [gp_ne, gpa_ne, gp_sp, gp_sa, upd_eq, upd_ne, gq_sp, gq_sa], fun z => by simp (disch := omega) only [gp_ne, gpa_ne, gp_sp, gp_sa, upd_eq, upd_ne, gq_sp, gq_sa], by simp (disch := omega) only [gp_ne, gpa_ne, gp_sp, gp_sa, upd_eq, upd_ne, gq_sp, gq_sa], by simp (disch := omega) only [gp_ne, gpa_ne, gp_sp, gp_sa, upd_eq, upd_ne, gq_sp, gq_sa], by simp (disch := omega) only [gp_ne, gpa_ne, gp_sp, gp_sa, upd_eq, upd_ne, gq_sp, gq_sa]⟩
      · rw [if_neg q2]
        refine ⟨by simp (disch := omega) only [gp_ne, gpa_ne, gp_sp, gp_sa, upd_eq, upd_ne, gq_sp, gq_sa], fun z => by simp (disch := omega) only [gp_ne, gpa_ne, gp_sp, gp_sa, upd_eq, upd_ne, gq_sp, gq_sa], by simp (disch := omega) only [gp_ne, gpa_ne, gp_sp, gp_sa, upd_eq, upd_ne, gq_sp, gq_sa], by simp (disch := omega) only [gp_ne, gpa_ne, gp_sp, gp_sa, upd_eq, upd_ne, gq_sp, gq_sa], by simp (disch := omega) only [gp_ne, gpa_ne, gp_sp, gp_sa, upd_eq, upd_ne, gq_sp, gq_sa]⟩
  obtain ⟨g1, g2, g3, g4, g5⟩ := g
  refine ⟨?_, fun z => ?_, ?_, ?_, ?_, ?_, fun z => ?_⟩
  · simp (disch := omega) only [gp_ne, gpa_ne, gp_sp, gp_sa, upd_eq, upd_ne, gq_sp, gq_sa, f]; exact g1
  · simp (disch := omega) only [gp_ne, gpa_ne, gp_sp, gp_sa, upd_eq, upd_ne, gq_sp, gq_sa, f]; exact g2 z
  · simp (disch := omega) only [gp_ne, gpa_ne, gp_sp, gp_sa, upd_eq, upd_ne, gq_sp, gq_sa, f]; exact g3
  · simp (disch := omega) only [gp_ne, gpa_ne, gp_sp, gp_sa, upd_eq, upd_ne, gq_sp, gq_sa, f]; exact g4
  · simp (disch := omega) only [gp_ne, gpa_ne, gp_sp, gp_sa, upd_eq, upd_ne, gq_sp, gq_sa]
  · simp (disch := omega) only [gp_ne, gpa_ne, gp_sp, gp_sa, upd_eq, upd_ne, gq_sp, gq_sa]
  · simp (disch := omega) only [gp_ne, gpa_ne, gp_sp, gp_sa, upd_eq, upd_ne, gq_sp, gq_sa, f]; rw [g5]; exact (hp z).2
set_option maxHeartbeats 4000000 in
theorem hdR_mo {R : kM} {p t d pp : Nat} : gp (hdR R p t d pp) lMo 22 = nI (p + 1) ∧ gp (hdR R p t d pp) lMo 16 = nI (t + 1) ∧ (∀ k, k ≠ 16 → k ≠ 22 → gp (hdR R p t d pp) lMo k = gp R lMo k) := by
  unfold hdR hd0
  by_cases q : d = 0
  · rw [if_pos q]; refine ⟨by simp (disch := omega) only [gp_ne, gpa_ne, gp_sp, gp_sa, upd_eq, upd_ne, gq_sp, gq_sa], by simp (disch := omega) only [gp_ne, gpa_ne, gp_sp, gp_sa, upd_eq, upd_ne, gq_sp, gq_sa], fun k a b => by simp (disch := omega) only [gp_ne, gpa_ne, gp_sp, gp_sa, upd_eq, upd_ne, gq_sp, gq_sa]⟩
  · rw [if_neg q]
    by_cases q2 : 0 ≤ gp R (lMa 19) pp
    · rw [if_pos q2]; refine ⟨by simp (disch := omega) only [gp_ne, gpa_ne, gp_sp, gp_sa, upd_eq, upd_ne, gq_sp, gq_sa], by simp (disch := omega) only [gp_ne, gpa_ne, gp_sp, gp_sa, upd_eq, upd_ne, gq_sp, gq_sa], fun k a b => by simp (disch := omega) only [gp_ne, gpa_ne, gp_sp, gp_sa, upd_eq, upd_ne, gq_sp, gq_sa]⟩
    · rw [if_neg q2]; refine ⟨by simp (disch := omega) only [gp_ne, gpa_ne, gp_sp, gp_sa, upd_eq, upd_ne, gq_sp, gq_sa], by simp (disch := omega) only [gp_ne, gpa_ne, gp_sp, gp_sa, upd_eq, upd_ne, gq_sp, gq_sa], fun k a b => by simp (disch := omega) only [gp_ne, gpa_ne, gp_sp, gp_sa, upd_eq, upd_ne, gq_sp, gq_sa]⟩
set_option maxHeartbeats 4000000 in
theorem nmF_cg {T T' : kT} {k t p p' : Nat} {C2 C C' R R' : kM} (hT : T'.1 = T.1) (h1 : gp C' (lTm t) = gp C (lTm t)) (h2 : gp C' (lPk t) = gp C (lPk t)) (h3 : gq C' (lTm t) 6 = gq C (lTm t) 6) (h4 : gp R' (lMa 13) = gp R (lMa 13)) (h : nmF T k t p p' C2 C R) : nmF T' k t p p' C2 C' R' := by
  unfold nmF wW at *
  rw [hT, h1, h2, h3, h4]; exact h
set_option maxHeartbeats 4000000 in
theorem f39 {T : kT} {k : Nat} {M : kM} (hk : k ≤ 10) : F_39 T (nI k) M = some (nI (pts k), M) := by
  have hkk : k = 0 ∨ k = 1 ∨ k = 2 ∨ k = 3 ∨ k = 4 ∨ k = 5 ∨ k = 6 ∨ k = 7 ∨ k = 8 ∨ k = 9 ∨ k = 10 := by omega
  unfold F_39 pts
  rcases hkk with rfl | rfl | rfl | rfl | rfl | rfl | rfl | rfl | rfl | rfl | rfl <;> simp (disch := omega) only [pn_mulL, pn_addL, pn_addR, pn_ltL, pn_ltR, pn_leL, pn_leR, pn_eqL, pn_eqR, pn_subL, pn_z, pn_add, pn_mul, pn_nat, pn_inj, pn_lt, pn_le, pn_neg, kGx_nI, kGx_L, kGd_t, kBd_s, kOpt_s, kOpt_n, kLf_s, kAg_l, kAg_r, kAg_f, if_true, if_false, ite_true, ite_false, eq_self_iff_true, ↓reduceIte, Nat.reduceEqDiff, Nat.reduceLeDiff, Nat.reduceLT, Nat.reduceAdd, Nat.reduceMul, Nat.reduceSub, Int32.reduceLT, Int32.reduceLE, Nat.add_zero, Nat.zero_add, Nat.succ_ne_self, Nat.not_lt_zero, Nat.one_ne_zero, Nat.zero_ne_one, i01, i02, i03, i04, i10, i12, i13, i14, i20, i21, i23, i24, i30, i31, i32, i34, i40, i41, i42, i43, not_true_eq_false, not_false_eq_true] <;> rfl
set_option maxHeartbeats 4000000 in
theorem dead107 {T : kT} {t : Nat} {x : Int32} {C : kM} {ak : kT → Int32 → kM → Option (Option Nat × kT × kM)} (h : ¬ gp C lRd 2 = -1) : F_38_107 T ak x t C = some (none, T, C) := by
  unfold F_38_107 F_33
  rw [if_neg h, kBd_s, if_neg (by decide)]
set_option maxHeartbeats 4000000 in
theorem dead81 {T : kT} {t : Nat} {x y z : Int32} {C : kM} {ak : kT → Int32 → kM → Option (Option Nat × kT × kM)} (h : ¬ gp C lRd 2 = -1) : F_38_81 T ak x y t z C = some (none, T, C) := by
  unfold F_38_81 F_33
  by_cases q : z < 2
  · rw [if_pos q, dead107 h]
  · rw [if_neg q, if_neg h, kBd_s, if_neg (by decide), dead107 h]
noncomputable def ak38 (e : Nat) : kT → Int32 → kM → Option (Option Nat × kT × kM) := fun T dp M => F_38r T e dp M
set_option maxHeartbeats 4000000 in
theorem f38_node {T T1 T2 : kT} {e d t k p : Nat} {C C1 C2 C3 C' : kM} {r : Option Nat} (hd : d < 10) (e36 : F_36 T 0 10 C = some (nI k, C1)) (e37 : F_37 T (nI k) C1 = some (some t, T1, C2)) (l1 : T.1 ≤ T1.1) (l2 : T.2 ≤ T1.2) (e40 : F_40 T1 (some t) C2 = some ((), C3)) (ht : t < T1.2) (hk : gp C3 (lTm t) 0 = nI k) (hk10 : k ≤ 10) (h3 : gp C lRd 3 = nI p)
    (hin : (if nI (pts k) < 1 then F_38_81 T1 (ak38 e) (nI d) (nI p) t (nI (pts k)) C3 else kBd (F_33 T1 C3) (fun r21 M22 => if r21 = 0 then kBt (F_38r T1 e (nI (d + 1)) M22) (fun r25 T26 M27 => kCh T1 T26 (kGd (kLv T26 (lTm t)) (F_38_81 T26 (ak38 e) (nI d) (nI p) t (nI (pts k)) (sq M27 (lTm t) 7 r25)))) else F_38_81 T1 (ak38 e) (nI d) (nI p) t (nI (pts k)) M22)) = some (r, T2, C')) (l3 : T1.1 ≤ T2.1) (l4 : T1.2 ≤ T2.2) : F_38r T (e + 1) (nI d) C = some (r, T2, C') := by
  show F_38 T (ak38 e) (nI d) C = _
  unfold F_38
  rw [if_pos (by rw [pn_ltL _ (by omega) (by omega)]; exact hd), e36, kBd_s, e37, kBt_s, kOpt_s, e40, kBd_s, lv_tm ht, kGd_t, hk, f39 hk10, kBd_s, h3, pn_addL]
  show kCh T T1 (if nI (pts k) < 1 then F_38_81 T1 (ak38 e) (nI d) (nI p) t (nI (pts k)) C3 else kBd (F_33 T1 C3) (fun r21 M22 => if r21 = 0 then kBt (F_38r T1 e (nI (d + 1)) M22) (fun r25 T26 M27 => kCh T1 T26 (kGd (kLv T26 (lTm t)) (F_38_81 T26 (ak38 e) (nI d) (nI p) t (nI (pts k)) (sq M27 (lTm t) 7 r25)))) else F_38_81 T1 (ak38 e) (nI d) (nI p) t (nI (pts k)) M22)) = _
  rw [hin]
  exact kCh_s l1 l2 l3 l4
