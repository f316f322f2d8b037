def upC (M : kM) (j n r' : Nat) (f' : Nat → Int32) : kM := so (sp (sa (cnt (sq M lD 6 none) n) (lTc j) f') (lTb j) 4 (nI r')) 0 (nI n).toInt64
def upR (M1 : kM) (c8 : Int32) (j r' : Nat) (g' : Nat → Int32) : kM := sp (sp (sp (sa (sp M1 lMo 0 0) (lMa 5) g') (lMa 4) j (nI r')) lMo 8 c8) lMo 15 0
set_option maxHeartbeats 4000000 in
theorem upC_a {M : kM} {j n r' : Nat} {f' : Nat → Int32} {a b : Nat} (x : a ≠ 1) (y : a ≠ 11) (z : a ≠ 13) : gp (upC M j n r' f') (a, b) = gp M (a, b) := by
  unfold upC; rw [gp_so]; simp (disch := omega) only [gp_ne, gpa_ne, gp_sp, gp_sa, upd_eq, upd_ne, gq_sp, gq_sa]; rw [cnt_ne x, sqE]
set_option maxHeartbeats 4000000 in
theorem upC_q {M : kM} {j n r' : Nat} {f' : Nat → Int32} : gq (upC M j n r' f') = gq (sq M lD 6 none) := by
  unfold upC
  funext l
  rw [gq_so, gq_sp, gq_sa, cnt_q]
set_option maxHeartbeats 4000000 in
theorem up_inv {T : kT} {M : kM} {j w r' n k : Nat} {f' g' : Nat → Int32} (h : iNv T M) (hj : j < T.1) (hw : gp M (lTb j) 0 = nI w) (hw6 : w ≤ 6) (hr' : r' ≤ 40) (hn : n ≤ 40)
    (hf : ∀ i c, i < r' → c < w → f' (i * w + c) = g' ((j * 40 + i) * 6 + c)) (hg1 : ∀ x, (j * 40 + 40) * 6 ≤ x → g' x = gp M (lMa 5) x) (hg2 : ∀ x, x < j * 40 * 6 → g' x = gp M (lMa 5) x)
    (k1 : gp M lMo 7 = 1 → gp M lTs 3 = nI k) (k2 : gp M lMo 7 = 1 → gp M lMo 8 = nI k) (k3 : gp M lMo 7 = 1 → k + n ≤ 120) : iNv T (upR (upC M j n r' f') (gp M lMo 8 + nI n) j r' g') := by
  have hA := h.1
  have hT := h.2.2.2.1
  generalize hM1 : upC M j n r' f' = M1
  have gR : ∀ b, gp M1 (21, b) = gp M (21, b) := fun b => by rw [← hM1]; exact upC_a (by omega) (by omega) (by omega)
  have gO : gp M1 lMo = gp M lMo := by rw [← hM1]; exact upC_a (by omega) (by omega) (by omega)
  have gC : ∀ a b, a ≠ 1 → a ≠ 11 → a ≠ 13 → gp M1 (a, b) = gp M (a, b) := fun a b x y z => by rw [← hM1]; exact upC_a x y z
  have gQ : gq M1 = gq (sq M lD 6 none) := by rw [← hM1]; exact upC_q
  have gT : ∀ k, k ≠ 3 → gp M1 lTs k = gp M lTs k := fun k x => by rw [← hM1]; unfold upC; rw [gp_so]; simp (disch := omega) only [gp_ne, gpa_ne, gp_sp, gp_sa, upd_eq, upd_ne, gq_sp, gq_sa]; rw [cnt_ts x, sqE]
  have gT3 : gp M1 lTs 3 = gp (cnt M n) lTs 3 := by
    rw [← hM1]; unfold upC; rw [gp_so]; simp (disch := omega) only [gp_ne, gpa_ne, gp_sp, gp_sa, upd_eq, upd_ne, gq_sp, gq_sa]
    unfold cnt
    rw [sqE]
    by_cases q : gp M lTs 2 = 0
    · rw [if_pos q, if_pos q]; rfl
    · rw [if_neg q, if_neg q]; rfl
  have gB : ∀ j', j' ≠ j → ∀ a, a = 11 ∨ a = 13 → gp M1 (a, j') = gp M (a, j') := fun j' x a y => by rw [← hM1]; unfold upC; rw [gp_so]; simp (disch := omega) only [gp_ne, gpa_ne, gp_sp, gp_sa, upd_eq, upd_ne, gq_sp, gq_sa]; rw [cnt_ne (by omega), sqE]
  have gb4 : gp M1 (lTb j) = upd (gp M (lTb j)) 4 (nI r') := by rw [← hM1]; unfold upC; rw [gp_so]; simp (disch := omega) only [gp_ne, gpa_ne, gp_sp, gp_sa, upd_eq, upd_ne, gq_sp, gq_sa]; rw [cnt_ne (by omega), sqE]
  have gbc : gp M1 (lTc j) = f' := by rw [← hM1]; unfold upC; rw [gp_so]; simp (disch := omega) only [gp_ne, gpa_ne, gp_sp, gp_sa, upd_eq, upd_ne, gq_sp, gq_sa]
  clear hM1
  unfold upR
  refine ⟨?_, ?_, Or.inl ⟨?_, by simp (disch := omega) only [gp_ne, gpa_ne, gp_sp, gp_sa, upd_eq, upd_ne, gq_sp, gq_sa]⟩, iZ_none (M := M) (fun l x => ?_) ?_ h.2.2.2⟩
  · obtain ⟨a1, a2, a3, a4, a5, a6⟩ := hA
    unfold iA
    simp (disch := omega) only [gp_ne, gpa_ne, gp_sp, gp_sa, upd_eq, upd_ne, gq_sp, gq_sa, gO, gT]
    refine ⟨a1, ?_, fun j' hj' => ?_, fun j' x y => ?_, a5, fun g => ⟨?_, fun j' hj' => ?_, fun j' x y => ?_⟩⟩
    · intro j' hj'
      show gq M1 lAl j' = _
      rw [gQ]; exact a2 j' hj'
    · obtain ⟨w', r2, z1, z2, z3, z4, z5, z6, z7, z8, z9⟩ := a3 j' hj'
      by_cases qj : j' = j
      · subst qj
        have ww : w' = w := by
          have := z4.symm.trans hw
          rwa [pn_inj (by omega) (by omega)] at this
        subst ww
        refine ⟨w', r', z1, z2, hr', ?_, ?_, ?_, ?_, ?_, ?_⟩
        · simp (disch := omega) only [gp_ne, gpa_ne, gp_sp, gp_sa, upd_eq, upd_ne, gq_sp, gq_sa, gb4]; exact z4
        · simp (disch := omega) only [gp_ne, gpa_ne, gp_sp, gp_sa, upd_eq, upd_ne, gq_sp, gq_sa, gR]; exact z5
        · simp (disch := omega) only [gp_ne, gpa_ne, gp_sp, gp_sa, upd_eq, upd_ne, gq_sp, gq_sa, gb4]
        · simp (disch := omega) only [gp_ne, gpa_ne, gp_sp, gp_sa, upd_eq, upd_ne, gq_sp, gq_sa]
        · intro i c hi hc
          simp (disch := omega) only [gp_ne, gpa_ne, gp_sp, gp_sa, upd_eq, upd_ne, gq_sp, gq_sa, gbc]
          exact hf i c hi hc
        · intro c hc
          simp (disch := omega) only [gp_ne, gpa_ne, gp_sp, gp_sa, upd_eq, upd_ne, gq_sp, gq_sa, gR]
          rw [gC 12 _ (by omega) (by omega) (by omega)]
          exact z9 c hc
      · refine ⟨w', r2, z1, z2, z3, ?_, ?_, ?_, ?_, fun k' c hk' hc => ?_, fun c hc => ?_⟩
        · simp (disch := omega) only [gp_ne, gpa_ne, gp_sp, gp_sa, upd_eq, upd_ne, gq_sp, gq_sa]; rw [gB j' qj 11 (Or.inl rfl)]; exact z4
        · simp (disch := omega) only [gp_ne, gpa_ne, gp_sp, gp_sa, upd_eq, upd_ne, gq_sp, gq_sa, gR]; exact z5
        · simp (disch := omega) only [gp_ne, gpa_ne, gp_sp, gp_sa, upd_eq, upd_ne, gq_sp, gq_sa]; rw [gB j' qj 11 (Or.inl rfl)]; exact z6
        · simp (disch := omega) only [gp_ne, gpa_ne, gp_sp, gp_sa, upd_eq, upd_ne, gq_sp, gq_sa, gR]; exact z7
        · simp (disch := omega) only [gp_ne, gpa_ne, gp_sp, gp_sa, upd_eq, upd_ne, gq_sp, gq_sa]
          rw [gB j' qj 13 (Or.inr rfl), z8 k' c hk' hc]
          by_cases lt : j' < j
          · exact (hg2 _ (by omega)).symm
          · exact (hg1 _ (by omega)).symm
        · simp (disch := omega) only [gp_ne, gpa_ne, gp_sp, gp_sa, upd_eq, upd_ne, gq_sp, gq_sa, gR]
          rw [gC 12 _ (by omega) (by omega) (by omega)]
          exact z9 c hc
    · have z := a4 j' x y
      simp (disch := omega) only [gp_ne, gpa_ne, gp_sp, gp_sa, upd_eq, upd_ne, gq_sp, gq_sa, gR]
      exact z
    · have := chg (n := n) ⟨a1, a2, a3, a4, a5, a6⟩ k1 k2 k3 (c8 := gp M lMo 8 + nI n) rfl g
      rw [gT3]
      exact this
    · obtain ⟨w', r2, z1, z2, z3, z4, z5, z6, z7⟩ := (a6 g).2.1 j' hj'
      by_cases qj : j' = j
      · subst qj
        refine ⟨w', r2, ?_, z2, z3, z4, ?_, ?_, fun k' c hk' hc => ?_⟩
        · simp (disch := omega) only [gp_ne, gpa_ne, gp_sp, gp_sa, upd_eq, upd_ne, gq_sp, gq_sa, gb4]; exact z1
        · simp (disch := omega) only [gp_ne, gpa_ne, gp_sp, gp_sa, upd_eq, upd_ne, gq_sp, gq_sa, gb4]; exact z5
        · simp (disch := omega) only [gp_ne, gpa_ne, gp_sp, gp_sa, upd_eq, upd_ne, gq_sp, gq_sa, gR]; exact z6
        · simp (disch := omega) only [gp_ne, gpa_ne, gp_sp, gp_sa, upd_eq, upd_ne, gq_sp, gq_sa, gR]; rw [gC 14 _ (by omega) (by omega) (by omega)]; exact z7 k' c hk' hc
      · refine ⟨w', r2, ?_, z2, z3, z4, ?_, ?_, fun k' c hk' hc => ?_⟩
        · simp (disch := omega) only [gp_ne, gpa_ne, gp_sp, gp_sa, upd_eq, upd_ne, gq_sp, gq_sa]; rw [gB j' qj 11 (Or.inl rfl)]; exact z1
        · simp (disch := omega) only [gp_ne, gpa_ne, gp_sp, gp_sa, upd_eq, upd_ne, gq_sp, gq_sa]; rw [gB j' qj 11 (Or.inl rfl)]; exact z5
        · simp (disch := omega) only [gp_ne, gpa_ne, gp_sp, gp_sa, upd_eq, upd_ne, gq_sp, gq_sa, gR]; exact z6
        · simp (disch := omega) only [gp_ne, gpa_ne, gp_sp, gp_sa, upd_eq, upd_ne, gq_sp, gq_sa, gR]; rw [gC 14 _ (by omega) (by omega) (by omega)]; exact z7 k' c hk' hc
    · simp (disch := omega) only [gp_ne, gpa_ne, gp_sp, gp_sa, upd_eq, upd_ne, gq_sp, gq_sa, gR]; exact (a6 g).2.2 j' x y
  · have hB := h.2.1
    unfold iB at *
    simp (disch := omega) only [gp_ne, gpa_ne, gp_sp, gp_sa, upd_eq, upd_ne, gq_sp, gq_sa, gC]
    exact hB
  · show gq M1 lD 6 = none; rw [gQ]; exact gq_no M
  · show gq M1 l = gq M l; rw [gQ]; exact gq_sq_ne x
  · show gq M1 lD 6 = none; rw [gQ]; exact gq_no M
set_option maxHeartbeats 4000000 in
theorem trk {T : kT} {M : kM} (hA : iA T M) : ∃ k, k ≤ 120 ∧ (gp M lMo 7 = 1 → gp M lTs 3 = nI k) ∧ (gp M lMo 7 = 1 → gp M lMo 8 = nI k) := by
  rcases hA.2.2.2.2.1.2 with z | z
  · exact ⟨0, by omega, fun y => absurd (z.symm.trans y) (by decide), fun y => absurd (z.symm.trans y) (by decide)⟩
  · obtain ⟨k, a, b, c⟩ := (hA.2.2.2.2.2 z).1
    exact ⟨k, a, fun _ => b, fun _ => c⟩
set_option maxHeartbeats 4000000 in
theorem c_delete {T : kT} {M : kM} {t c v : Int32} (h : iNv T M) : okI T (F_147 T t c v M) (F_105 T t c v) := by
  have hA := h.1
  have hT := h.2.2.2.1
  have o1 := hA.1.2
  have h5 := hA.2.2.2.2.1
  have r1 : ∀ (X : kM) (s : Int32), gp (sp X lMo 0 s) lMo 0 = s := fun X s => by simp (disch := omega) only [gp_ne, gpa_ne, gp_sp, gp_sa, upd_eq, upd_ne, gq_sp, gq_sa]
  rcases in_cases t T.1 (by omega) with ⟨j, hj, rfl⟩ | ho
  · obtain ⟨w, r, t1, t2, t3, t4, t5, t6, t7, t8, t9⟩ := hA.2.2.1 j hj
    rcases in_cases c w (by omega) with ⟨d, hd, rfl⟩ | hco
    · obtain ⟨k, hk, k1, k2⟩ := trk hA
      have pq : ∀ i, i < r → cp M j w d v i = rp M j d v i := fun i hi => by show decide _ = decide _; rw [t8 i d hi hd]
      generalize hn : cn (cp M j w d v) r 0 = n
      have hn' : cn (rp M j d v) r 0 = n := by rw [← hn]; exact (cn_congr r 0 (fun i _ hi => pq i (by omega))).symm
      have n40 : n ≤ 40 := by have := cn_le (p := cp M j w d v) r 0; omega
      have ct : F_76 T j (nI d) v M = some (nI n, M) := by
        unfold F_76
        have := cl_count (T := T) (v := v) hj t4 t6 t2 t3 hd r 0 0 (by omega)
        rw [Nat.zero_add, hn] at this
        exact this
      have mc := may (T := T) (M := M) (k := k) (n := n) hk n40 (by rw [h5.1]; exact k1) (by rw [h5.1]; exact h5.2)
      have rct : ∀ X, gp X (lMa 4) = gp M (lMa 4) → gp X (lMa 5) = gp M (lMa 5) → F_104 T (nI j) (nI d) v X = some (nI n, X) := by
        intro X x1 x2
        unfold F_104
        have := rf_count (T := T) (M := X) (v := v) (j := j) (r := r) (c := d) (by omega) (by rw [x1]; exact t7) t3 (by omega) r 0 0 (by omega)
        have e : rp X j d v = rp M j d v := by unfold rp; rw [x2]
        rw [e, Nat.zero_add, hn'] at this
        exact this
      by_cases ok : gp M lMo 7 = 0 ∨ k + n ≤ 120
      · have mc1 : F_85 T (nI n) M = some (1, M) := by rw [if_pos (by rw [h5.1]; exact ok)] at mc; exact mc
        have c4 : gp (cnt (sq M lD 6 none) n) (lTb j) 4 = nI r := by rw [cnt_ne (by omega), sqE]; exact t6
        have c0 : gp (cnt (sq M lD 6 none) n) (lTb j) 0 = nI w := by rw [cnt_ne (by omega), sqE]; exact t4
        have cc : gp (cnt (sq M lD 6 none) n) (lTc j) = gp M (lTc j) := by rw [cnt_ne (by omega), sqE]
        have ecp : cp (cnt (sq M lD 6 none) n) j w d v = cp M j w d v := by unfold cp; rw [cc]
        obtain ⟨f', ef, hf⟩ := cl_remove (T := T) (v := v) (M := cnt (sq M lD 6 none) n) hj c0 c4 t1 t2 t3 hd r 0 (gp (cnt (sq M lD 6 none) n) (lTc j)) (by omega) (fun i d hi => absurd hi (Nat.not_lt_zero _)) (fun _ _ => rfl)
        rw [sa_id, ecp] at ef
        rw [ecp, cc] at hf
        generalize hs : slc (cp M j w d v) r = s at *
        have sl : s.1 ≤ r ∧ ∀ i, i < s.1 → s.2 i < r := by rw [← hs]; exact slc_le r
        have hs' : slc (rp M j d v) r = s := by rw [← hs]; exact (slc_congr r (fun i hi => pq i hi)).symm
        have e1 : F_147 T (nI j) (nI d) v M = some (0, upC M j n s.1 f') := by
          unfold F_147 F_5 F_78
          rw [by_in hA hT hj, kBd_s, kOpt_s, lv_tb hj, kGd_t, hasC_in hj t4 t2 hd, kBd_s, if_neg (by decide), ct, kBd_s, mc1, kBd_s, if_neg (by decide), cl_cnt, kBd_s, show F_78_5 T j (nI d) v 0 0 (cnt (sq M lD 6 none) n) = _ from ef]
          rfl
        have gR : ∀ b, gp (upC M j n s.1 f') (21, b) = gp M (21, b) := fun b => upC_a (by omega) (by omega) (by omega)
        have gO : gp (upC M j n s.1 f') lMo = gp M lMo := upC_a (by omega) (by omega) (by omega)
        have gM5 : gp (sp (upC M j n s.1 f') lMo 0 0) (lMa 5) = gp M (lMa 5) := by simp (disch := omega) only [gp_ne, gpa_ne, gp_sp, gp_sa, upd_eq, upd_ne, gq_sp, gq_sa]; exact gR 5
        obtain ⟨g', eg, hg, hg1, hg2⟩ := rf_remove (T := T) (M := sp (upC M j n s.1 f') lMo 0 0) (j := j) (r := r) (c := d) (n := n) (v := v) (by omega) (by simp (disch := omega) only [gp_ne, gpa_ne, gp_sp, gp_sa, upd_eq, upd_ne, gq_sp, gq_sa]; rw [gR 4]; exact t7) t3 (by omega) r 0 (gp (sp (upC M j n s.1 f') lMo 0 0) (lMa 5)) (by omega) (fun i d hi => absurd hi (Nat.not_lt_zero _)) (fun _ _ => rfl) (fun _ _ => rfl)
        have erp : rp (sp (upC M j n s.1 f') lMo 0 0) j d v = rp M j d v := by unfold rp; rw [gM5]
        rw [sa_id, erp, hs'] at eg
        rw [erp, hs', gM5] at hg
        rw [gM5] at hg1 hg2
        have e2 : F_105 T (nI j) (nI d) v (upC M j n s.1 f') = some (nI n, upR (upC M j n s.1 f') (gp M lMo 8 + nI n) j s.1 g') := by
          have e43 : F_105_43 T (nI j) (nI d) v 0 (upC M j n s.1 f') = some (nI n, upR (upC M j n s.1 f') (gp M lMo 8 + nI n) j s.1 g') := by
            unfold F_105_43
            rw [r1, if_pos (by decide), rct _ (by simp (disch := omega) only [gp_ne, gpa_ne, gp_sp, gp_sa, upd_eq, upd_ne, gq_sp, gq_sa]; exact gR 4) gM5, kBd_s, show F_105_70 T (nI j) (nI d) v (nI n) 0 0 (sp (upC M j n s.1 f') lMo 0 0) = _ from eg]
            have : gp (sp (upC M j n s.1 f') lMo 0 0) lMo 8 = gp M lMo 8 := by simp (disch := omega) only [gp_ne, gpa_ne, gp_sp, gp_sa, upd_eq, upd_ne, gq_sp, gq_sa]; rw [gO]
            rw [this]; rfl
          unfold F_105
          rw [isC_in (by rw [gO]; exact o1) hT hj (by rw [gR 2]; exact t5) t2 hd, kBd_s, if_neg (by decide), gO]
          by_cases q : gp M lMo 7 = 0
          · rw [if_pos q, e43]
          · have g1 := h5.2.resolve_left q
            have le : gp M lMo 8 + nI n ≤ 120 := by rw [k2 g1, pn_add]; simp (disch := omega) only [pn_mulL, pn_addL, pn_addR, pn_ltL, pn_ltR, pn_leL, pn_leR, pn_eqL, pn_eqR, pn_subL, pn_z, pn_add, pn_mul, pn_nat, pn_inj, pn_lt, pn_le, pn_neg, kGx_nI, kGx_L]; exact ok.resolve_left q
            rw [if_neg q, rct _ (gR 4) (gR 5), kBd_s, if_pos le, e43]
        refine ⟨0, _, _, _, e1, e2, by unfold upR; simp (disch := omega) only [gp_ne, gpa_ne, gp_sp, gp_sa, upd_eq, upd_ne, gq_sp, gq_sa], fun _ => ?_, ?_⟩
        · show go (upC M j n s.1 f') 0 = _; unfold upC; rw [go_so]; exact if_pos rfl
        · refine up_inv h hj t4 t2 (by omega) n40 (fun i c hi hc => ?_) hg1 hg2 k1 k2 (fun g => by rcases ok with y | y; exact absurd (y.symm.trans g) (by decide); exact y)
          rw [hf i c hi hc, hg i c hi (by omega)]
          exact t8 _ c (sl.2 i hi) hc
      · have g7 : ¬ gp M lMo 7 = 0 := fun z => ok (Or.inl z)
        have g1 : gp M lMo 7 = 1 := h5.2.resolve_left g7
        have kn : ¬ k + n ≤ 120 := fun z => ok (Or.inr z)
        have mc0 : F_85 T (nI n) M = some (0, M) := by rw [if_neg (by rw [h5.1]; exact ok)] at mc; exact mc
        refine noI (k := 2) (b := 0) h (by decide) ?_ ?_
        · unfold F_147 F_5
          rw [by_in hA hT hj, kBd_s, kOpt_s, lv_tb hj, kGd_t, hasC_in hj t4 t2 hd, kBd_s, if_neg (by decide), ct, kBd_s, mc0, kBd_s, if_pos rfl]; rfl
        · unfold F_105 F_105_43
          rw [isC_in o1 hT hj t5 t2 hd, kBd_s, if_neg (by decide), if_neg g7, rct M rfl rfl, kBd_s, k2 g1, pn_add, if_neg (by simp (disch := omega) only [pn_mulL, pn_addL, pn_addR, pn_ltL, pn_ltR, pn_leL, pn_leR, pn_eqL, pn_eqR, pn_subL, pn_z, pn_add, pn_mul, pn_nat, pn_inj, pn_lt, pn_le, pn_neg, kGx_nI, kGx_L]; exact kn), r1, if_neg (by decide)]
    · refine noI (k := 1) (b := 0) h (by decide) ?_ ?_
      · unfold F_147 F_5 F_5_24
        rw [by_in hA hT hj, kBd_s, kOpt_s, lv_tb hj, kGd_t, hasC_out hj t4 t2 hco, kBd_s, if_pos rfl]; rfl
      · unfold F_105 F_105_43
        rw [isC_out o1 hT hj t5 t2 hco, kBd_s, if_pos rfl, r1, if_neg (by decide)]
  · refine noI (k := 1) (b := 0) h (by decide) ?_ ?_
    · unfold F_147 F_5 F_5_24
      rw [by_out hA hT ho, kBd_s, kOpt_n]; rfl
    · unfold F_105 F_105_43
      rw [isC_outT o1 hT ho, kBd_s, if_pos rfl, r1, if_neg (by decide)]
