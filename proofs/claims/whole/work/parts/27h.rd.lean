/-! the reference's reading loop -/
noncomputable abbrev Oo (T : kT) (d : Nat) (R : kM) : Option (Unit × kM) := F_115_4 T (nI d) 1 R
noncomputable def Ii (T : kT) (d : Nat) (R : kM) : Option (Unit × kM) := kAg (F_115_219 T (nI d) R) (fun w => F_115_4 T w.1 w.2.1 w.2.2)
set_option maxHeartbeats 4000000 in
theorem o_end {T : kT} {x y : Int32} {R : kM} (h : 0 ≤ gp R lMo 23) : F_115_4 T x y R = some ((), R) := by
  rw [F_115_4_eq]
  unfold B_115_4
  by_cases q : y = 0
  · rw [if_pos q, kAg_r]
  · rw [if_neg q, if_pos h, kAg_r]
set_option maxHeartbeats 4000000 in
theorem o_no {T : kT} {x : Int32} {R : kM} : F_115_4 T x 0 R = some ((), R) := by
  rw [F_115_4_eq]
  unfold B_115_4
  rw [if_pos rfl, kAg_r]
set_option maxHeartbeats 4000000 in
theorem i_fail {T : kT} {d : Nat} {R : kM} (h : 0 ≤ gp R lMo 23) : Ii T d R = some ((), R) := by
  unfold Ii
  rw [F_115_219_eq]
  unfold B_115_219 F_115_300
  rw [if_pos h, kAg_f]
  by_cases q : nI d ≤ 0
  · rw [if_pos q, kAg_l, o_end h]
  · rw [if_neg q, kAg_l, o_end h]
set_option maxHeartbeats 4000000 in
theorem i_top {T : kT} {R : kM} (h : gp R lMo 23 = -1) : Ii T 0 R = some ((), R) := by
  unfold Ii
  rw [F_115_219_eq]
  unfold B_115_219 F_115_300
  rw [h, if_neg (by decide), if_pos (by decide), kAg_f, if_pos (by decide), kAg_l, o_no]
set_option maxHeartbeats 4000000 in
theorem i_more {T : kT} {d c : Nat} {R : kM} (hd : d < 60) (h : gp R lMo 23 = -1) (hc : gp R (lMa 33) d = nI c) (hc1 : 1 ≤ c) (hc2 : c ≤ 2) : Ii T (d + 1) R = Oo T (d + 1) R := by
  unfold Ii
  rw [F_115_219_eq]
  unfold B_115_219 F_115_300
  rw [h, if_neg (by decide), if_neg (by rw [pn_leL _ (by omega) (by omega)]; omega), pn_subL _ (by omega), show d + 1 - 1 = d by omega, kGx_nI hd (by omega), pn_nat (by omega), hc, if_neg (by rw [pn_eqL _ (by omega) (by omega)]; omega), kAg_f, if_neg (by rw [pn_leL _ (by omega) (by omega)]; omega), kAg_l]
set_option maxHeartbeats 4000000 in
theorem i_pop {T : kT} {d t k u : Nat} {R R1 : kM} (hd : d < 60) (ht : t < 60) (h : gp R lMo 23 = -1) (hc : gp R (lMa 33) d = 0) (ho : gp R (lMa 32) d = nI t) (hk : F_118 T (nI t) R = some (nI k, R)) (hl : F_119 T (nI t) (nI k) R = some ((), R1)) (ho1 : gp R1 (lMa 32) d = nI t) (hu : gp R1 lMo 16 = nI u) (hu1 : 1 ≤ u) (c : Nat) (hc1 : ∀ d', d = d' + 1 → gp R1 (lMa 33) d' = nI (c + 1)) :
    Ii T (d + 1) R = Ii T d (if d = 0 then sp R1 (lMa 34) t (nI (u - 1)) else sp (sp R1 (lMa 34) t (nI (u - 1))) (lMa 33) (d - 1) (nI c)) := by
  have e : F_115_219 T (nI (d + 1)) R = F_115_219 T (nI d) (if d = 0 then sp R1 (lMa 34) t (nI (u - 1)) else sp (sp R1 (lMa 34) t (nI (u - 1))) (lMa 33) (d - 1) (nI c)) := by
    rw [F_115_219_eq]
    unfold B_115_219
    rw [h, if_neg (by decide), if_neg (by rw [pn_leL _ (by omega) (by omega)]; omega), pn_subL _ (by omega), pn_m1 (by omega), show d + 1 - 1 = d by omega, kGx_nI hd (by omega), pn_nat (by omega), hc, if_pos rfl, kGx_nI hd (by omega), kGx_nI hd (by omega), ho, hk, kBd_s, hl, kBd_s, kGx_nI hd (by omega), ho1, kGx_nI ht (by omega), pn_nat (by omega), hu, pn_subL _ (by omega)]
    by_cases q : d = 0
    · rw [if_pos (by rw [pn_leL _ (by omega) (by omega)]; omega), if_pos q, kAg_l]
    · have c1 := hc1 (d - 1) (by omega)
      rw [if_neg (by rw [pn_leL _ (by omega) (by omega)]; omega), if_neg q, pn_subL _ (by omega), kGx_nI (by omega) (by omega), kGx_nI (by omega) (by omega), pn_nat (by omega), kAg_l]
      show F_115_219 T (nI d) (sp (sp R1 (lMa 34) t (nI (u - 1))) (lMa 33) (d - 1) (gp (sp R1 (lMa 34) t (nI (u - 1))) (lMa 33) (d - 1) - 1)) = _
      rw [show gp (sp R1 (lMa 34) t (nI (u - 1))) (lMa 33) (d - 1) = nI (c + 1) by simp (disch := omega) only [gp_ne, gpa_ne, gp_sp, gp_sa, upd_eq, upd_ne, gq_sp, gq_sa]; exact c1, pn_subL _ (by omega), show c + 1 - 1 = c by omega]
  unfold Ii
  rw [e]
def hd0 (R : kM) (p t : Nat) (x : Int32) : kM := sp (sp (sp (sp (sp (sp (sp R lMo 22 (nI (p + 1))) lMo 16 (nI (t + 1))) (lMa 17) t (nI p)) (lMa 18) t x) (lMa 19) t (-1)) (lMa 20) t (-1)) (lMa 34) t (nI t)
/-- the term's head: it is noted, and its parent's part is it -/
def hdR (R : kM) (p t d pp : Nat) : kM := if d = 0 then hd0 R p t (-1) else if 0 ≤ gp R (lMa 19) pp then sp (hd0 R p t (nI pp)) (lMa 20) pp (nI t) else sp (hd0 R p t (nI pp)) (lMa 19) pp (nI t)
def pts (k : Nat) : Nat := if k = 0 then 0 else if 3 ≤ k ∧ k ≤ 5 then 2 else 1
set_option maxHeartbeats 4000000 in
theorem o_head {T : kT} {m p t d k pp : Nat} {C R R5 : kM} (hs : RS m p C R) (hp : p < m) (hk : wW R p = nI k) (hk10 : k ≤ 10) (hd : d < 10) (ht : t < 60) (hu : gp R lMo 16 = nI t) (hpp : d ≠ 0 → gp R (lMa 32) (d - 1) = nI pp ∧ pp < t) (hn : F_116 T (nI k) (hdR R p t d pp) = some ((), R5)) :
    Oo T d R = Ii T (d + 1) (sp (sp R5 (lMa 32) d (nI t)) (lMa 33) d (nI (pts k))) := by
  have ok : okW 0 10 (wW R p) := by rw [hk]; exact ⟨by rw [pn_neg (by omega)]; exact id, by rw [pn_leL _ (by omega) (by omega)]; exact hk10⟩
  have e170 : F_115_170 T (nI d) (nI k) (nI t) (hdR R p t d pp) = F_115_219 T (nI (d + 1)) (sp (sp R5 (lMa 32) d (nI t)) (lMa 33) d (nI (pts k))) := by
    unfold F_115_170 F_115_215
    rw [hn, kBd_s, kGx_nI (by omega) (by omega), pn_nat (by omega)]
    unfold pts
    have gx : ∀ x : Int32, kGx (nI d) 60 (F_115_219 T (nI d + 1) (sp (sp R5 (lMa 32) d (nI t)) (lMa 33) d x)) = F_115_219 T (nI (d + 1)) (sp (sp R5 (lMa 32) d (nI t)) (lMa 33) d x) := fun x => by rw [kGx_nI (by omega) (by omega), pn_addL]
    by_cases q0 : k = 0
    · rw [if_pos (by rw [q0]; rfl), if_pos q0]; exact gx 0
    · rw [if_neg (by rw [pn_eqL _ (by omega) (by omega)]; exact q0), if_neg q0]
      by_cases q3 : k < 3
      · rw [if_pos (by rw [pn_ltL _ (by omega) (by omega)]; exact q3), if_neg (by omega)]; exact gx 1
      · rw [if_neg (by rw [pn_ltL _ (by omega) (by omega)]; exact q3)]
        by_cases q5 : 5 < k
        · rw [if_pos (by rw [pn_ltR _ (by omega) (by omega)]; exact q5), if_neg (by omega)]; exact gx 1
        · rw [if_neg (by rw [pn_ltR _ (by omega) (by omega)]; exact q5), if_pos (by omega)]; exact gx 2
  have e94 : ∀ x : Int32, (d ≠ 0 → x = nI pp ∧ pp < t) → (d = 0 → x = -1) → F_115_94 T (nI d) (nI k) (nI t) x (nI t) (sp (sp (sp R lMo 22 (nI (p + 1))) lMo 16 (nI (t + 1))) (lMa 17) t (nI p)) = F_115_170 T (nI d) (nI k) (nI t) (hdR R p t d pp) := by
    intro x hx hx0
    unfold F_115_94
    rw [kGx_nI ht (by omega), kGx_nI ht (by omega), kGx_nI ht (by omega), kGx_nI ht (by omega), pn_nat (by omega)]
    show (if nI d ≤ 0 then F_115_170 T (nI d) (nI k) (nI t) (hd0 R p t x) else kGx (nI t) 60 (kGx (gp (hd0 R p t x) (lMa 18) t) 60 (if 0 ≤ gp (hd0 R p t x) (lMa 19) (gp (hd0 R p t x) (lMa 18) t).toNatClampNeg then kGx (nI t) 60 (kGx (gp (hd0 R p t x) (lMa 18) t) 60 (F_115_170 T (nI d) (nI k) (nI t) (sp (hd0 R p t x) (lMa 20) (gp (hd0 R p t x) (lMa 18) t).toNatClampNeg (nI t)))) else kGx (nI t) 60 (kGx (gp (hd0 R p t x) (lMa 18) t) 60 (F_115_170 T (nI d) (nI k) (nI t) (sp (hd0 R p t x) (lMa 19) (gp (hd0 R p t x) (lMa 18) t).toNatClampNeg (nI t))))))) = _
    unfold hdR
    by_cases q : d = 0
    · rw [if_pos (by rw [q]; decide), if_pos q, hx0 q]
    · obtain ⟨ex, hpt⟩ := hx q
      have g18 : gp (hd0 R p t x) (lMa 18) t = nI pp := by unfold hd0; simp (disch := omega) only [gp_ne, gpa_ne, gp_sp, gp_sa, upd_eq, upd_ne, gq_sp, gq_sa]; exact ex
      have g19 : gp (hd0 R p t x) (lMa 19) pp = gp R (lMa 19) pp := by unfold hd0; simp (disch := omega) only [gp_ne, gpa_ne, gp_sp, gp_sa, upd_eq, upd_ne, gq_sp, gq_sa]
      rw [if_neg (by rw [pn_leL _ (by omega) (by omega)]; omega), if_neg q, g18, kGx_nI ht (by omega), kGx_nI (by omega) (by omega), pn_nat (by omega), g19, ex]
      by_cases q2 : 0 ≤ gp R (lMa 19) pp
      · rw [if_pos q2, if_pos q2, kGx_nI ht (by omega), kGx_nI (by omega) (by omega)]
      · rw [if_neg q2, if_neg q2, kGx_nI ht (by omega), kGx_nI (by omega) (by omega)]
  have e40 : F_115_40 T (nI d) (nI p) (nI k) (sp R lMo 22 (nI (p + 1))) = F_115_170 T (nI d) (nI k) (nI t) (hdR R p t d pp) := by
    have g23 : gp (sp R lMo 22 (nI (p + 1))) lMo 23 = -1 := by simp (disch := omega) only [gp_ne, gpa_ne, gp_sp, gp_sa, upd_eq, upd_ne, gq_sp, gq_sa]; exact hs.2.2.2.2.2.2.2.1
    have g16 : gp (sp R lMo 22 (nI (p + 1))) lMo 16 = nI t := by simp (disch := omega) only [gp_ne, gpa_ne, gp_sp, gp_sa, upd_eq, upd_ne, gq_sp, gq_sa]; exact hu
    unfold F_115_40
    rw [g23, if_pos (by decide), g16, kGx_nI ht (by omega), pn_nat (by omega), pn_addL]
    by_cases q : d = 0
    · rw [if_pos (by rw [q]; decide)]
      exact e94 (-1) (fun z => absurd q z) (fun _ => rfl)
    · obtain ⟨h1, h2⟩ := hpp q
      rw [if_neg (by rw [pn_leL _ (by omega) (by omega)]; omega), pn_subL _ (by omega), kGx_nI (by omega) (by omega), pn_nat (by omega)]
      refine e94 _ (fun _ => ⟨?_, h2⟩) (fun z => absurd z q)
      simp (disch := omega) only [gp_ne, gpa_ne, gp_sp, gp_sa, upd_eq, upd_ne, gq_sp, gq_sa]; exact h1
  unfold Oo
  rw [F_115_4_eq]
  unfold B_115_4
  rw [if_neg (by decide), hs.2.2.2.2.2.2.2.1, if_neg (by decide), nb_ok hs hp ok, kBd_s, if_pos (by rw [pn_ltL _ (by omega) (by omega)]; exact hd), hs.2.2.2.2.2.1, hk, e40, e170]
  rfl
set_option maxHeartbeats 4000000 in
theorem o_bad {T : kT} {m p d : Nat} {C R : kM} (hs : RS m p C R) (hd : d ≤ 10) (h : d = 10 ∨ (p < m → ¬ okW 0 10 (wW R p))) : ∃ R', Oo T d R = some ((), R') ∧ relR R R' ∧ gp R' lMo 23 = nI p ∧ ∃ q, q ≤ 60 ∧ gp R' lMo 22 = nI q := by
  have h1 := hs.1
  have h2 := hs.2.1
  have fin : ∀ (k : Int32) (R1 : kM), gp R1 lMo 23 = nI p → F_115_40 T (nI d) (nI p) k R1 = some (.inr ((), R1)) := by
    intro k R1 g
    unfold F_115_40
    rw [g, if_neg (not_lt_of (pn_ge0 (by omega)))]
  unfold Oo
  rw [F_115_4_eq]
  unfold B_115_4
  rw [if_neg (by decide), hs.2.2.2.2.2.2.2.1, if_neg (by decide), hs.2.2.2.2.2.1]
  by_cases q : p < m ∧ okW 0 10 (wW R p)
  · have d10 : d = 10 := h.resolve_right (fun z => z q.1 q.2)
    subst d10
    refine ⟨sp (sp R lMo 22 (nI (p + 1))) lMo 23 (nI p), ?_, relR_trans relR_22 relR_23, by simp (disch := omega) only [gp_ne, gpa_ne, gp_sp, gp_sa, upd_eq, upd_ne, gq_sp, gq_sa], p + 1, by omega, by simp (disch := omega) only [gp_ne, gpa_ne, gp_sp, gp_sa, upd_eq, upd_ne, gq_sp, gq_sa]⟩
    rw [nb_ok hs q.1 q.2, kBd_s, if_neg (by decide)]
    unfold F_112
    rw [show gp (sp R lMo 22 (nI (p + 1))) lMo 23 = -1 by simp (disch := omega) only [gp_ne, gpa_ne, gp_sp, gp_sa, upd_eq, upd_ne, gq_sp, gq_sa]; exact hs.2.2.2.2.2.2.2.1, if_neg (by decide), kBd_s, fin _ _ (by simp (disch := omega) only [gp_ne, gpa_ne, gp_sp, gp_sa, upd_eq, upd_ne, gq_sp, gq_sa]), kAg_r]
  · refine ⟨sp R lMo 23 (nI p), ?_, relR_23, by simp (disch := omega) only [gp_ne, gpa_ne, gp_sp, gp_sa, upd_eq, upd_ne, gq_sp, gq_sa], p, by omega, by simp (disch := omega) only [gp_ne, gpa_ne, gp_sp, gp_sa, upd_eq, upd_ne, gq_sp, gq_sa]; exact hs.2.2.2.2.2.1⟩
    rw [nb_bad hs (fun a b => q ⟨a, b⟩), kBd_s, fin _ _ (by simp (disch := omega) only [gp_ne, gpa_ne, gp_sp, gp_sa, upd_eq, upd_ne, gq_sp, gq_sa])]
    have g : gp (sp R lMo 23 (nI p)) lMo 23 = nI p := by simp (disch := omega) only [gp_ne, gpa_ne, gp_sp, gp_sa, upd_eq, upd_ne, gq_sp, gq_sa]
    by_cases q10 : nI d < 10
    · rw [if_pos q10, kAg_r]
    · rw [if_neg q10]
      unfold F_112
      rw [g, if_pos (pn_ge0 (by omega)), kBd_s, fin _ _ g, kAg_r]
