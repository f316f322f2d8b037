/-! reading words -/
abbrev wW (R : kM) (p : Nat) : Int32 := gp R (lMa 13) p
/-- both have read p words and nothing was wrong -/
def RS (m p : Nat) (C R : kM) : Prop := m ≤ 60 ∧ p ≤ m ∧ gp C lRd 1 = nI m ∧ gp R lMo 11 = nI m ∧ gp C lRd 3 = nI p ∧ gp R lMo 22 = nI p ∧ gp C lRd 2 = -1 ∧ gp R lMo 23 = -1 ∧ (∀ k, k < m → gp C lWo k = wW R k) ∧ (∀ k, k < m → gp R (lMa 12) k = wW R k)
/-- both know the same wrong place -/
def FS (m : Nat) (C R : kM) : Prop := m ≤ 60 ∧ gp R lMo 11 = nI m ∧ (∃ p, p ≤ 60 ∧ gp R lMo 22 = nI p) ∧ ∃ q, q ≤ 60 ∧ gp C lRd 2 = nI q ∧ gp R lMo 23 = nI q
set_option maxHeartbeats 4000000 in
theorem pn_ne1 {q : Nat} (h : q < 2147483648) : ¬ nI q = -1 := by
  intro z
  have := congrArg Int32.toInt z
  rw [nI_toInt h] at this
  have e : (-1 : Int32).toInt = -1 := by decide
  omega
set_option maxHeartbeats 4000000 in
theorem pn_ge0 {q : Nat} (h : q < 2147483648) : 0 ≤ nI q := by rw [show (0 : Int32) = nI 0 from rfl, pn_le (by omega) h]; omega
/-- a word between two bounds, or any -/
def okW (lo hi w : Int32) : Prop := ¬ w < lo ∧ w ≤ hi
set_option maxHeartbeats 4000000 in
theorem nw_ok {T : kT} {m p : Nat} {C R : kM} (h : RS m p C R) (hp : p < m) : F_35 T C = some (wW R p, sp C lRd 3 (nI (p + 1))) ∧ RS m (p + 1) (sp C lRd 3 (nI (p + 1))) (sp R lMo 22 (nI (p + 1))) := by
  obtain ⟨h1, h2, h3, h4, h5, h6, h7, h8, h9, h10⟩ := h
  constructor
  · unfold F_35 F_33
    rw [h7, if_pos rfl, kBd_s, if_pos rfl, h3, h5, if_neg (by rw [pn_le (by omega) (by omega)]; omega), if_pos (by rw [pn_ltL _ (by omega) (by omega)]; omega), kGx_nI (by omega) (by omega), pn_nat (by omega), pn_addL, h9 p hp]
  · unfold RS
    simp (disch := omega) only [gp_ne, gpa_ne, gp_sp, gp_sa, upd_eq, upd_ne, gq_sp, gq_sa]
    exact ⟨h1, by omega, h3, h4, trivial, trivial, h7, h8, h9, h10⟩
set_option maxHeartbeats 4000000 in
theorem nb_ok {T : kT} {m p : Nat} {lo hi : Int32} {C R : kM} (h : RS m p C R) (hp : p < m) (hw : okW lo hi (wW R p)) : F_113 T lo hi R = some (wW R p, sp R lMo 22 (nI (p + 1))) := by
  obtain ⟨h1, h2, h3, h4, h5, h6, h7, h8, h9, h10⟩ := h
  unfold F_113 F_113_54 F_95
  rw [h4, h6, if_neg (by rw [pn_le (by omega) (by omega)]; omega), kGx_nI (by omega) (by omega), pn_nat (by omega), h10 p hp, if_neg hw.1, if_neg (not_lt_of hw.2), kBd_s, if_neg (by decide), h8, if_pos (by decide), h6, pn_addL]
  have e : gp (sp R lMo 22 (nI (p + 1))) lMo 22 = nI (p + 1) := by simp (disch := omega) only [gp_ne, gpa_ne, gp_sp, gp_sa, upd_eq, upd_ne, gq_sp, gq_sa]
  rw [e, pn_subL _ (by omega), kGx_nI (by omega) (by omega), pn_nat (by omega)]
  simp (disch := omega) only [gp_ne, gpa_ne, gp_sp, gp_sa, upd_eq, upd_ne, gq_sp, gq_sa]
  rw [show p + 1 - 1 = p by omega, h10 p hp]
set_option maxHeartbeats 4000000 in
theorem ni_ok {T : kT} {m p : Nat} {lo hi : Int32} {C R : kM} (h : RS m p C R) (hp : p < m) (hw : okW lo hi (wW R p)) : F_36 T lo hi C = some (wW R p, sp C lRd 3 (nI (p + 1))) := by
  unfold F_36
  rw [(nw_ok (T := T) h hp).1, kBd_s, if_neg hw.1, if_pos hw.2]
set_option maxHeartbeats 4000000 in
/-- no more words -/
theorem nw_end {T : kT} {m : Nat} {C R : kM} (h : RS m m C R) : F_35 T C = some (0, sp C lRd 2 (nI m)) := by
  obtain ⟨h1, h2, h3, h4, h5, h6, h7, h8, h9, h10⟩ := h
  unfold F_35 F_33 F_35_29 F_34
  rw [h7, if_pos rfl, kBd_s, if_pos rfl, h3, h5, if_pos (by rw [pn_le (by omega) (by omega)]; omega), if_pos h7, kBd_s]
set_option maxHeartbeats 4000000 in
theorem fs_end {m q : Nat} {C R : kM} (h : RS m q C R) (x : Nat) (hx : x ≤ 60) : FS m (sp C lRd 2 (nI x)) (sp R lMo 23 (nI x)) := by
  obtain ⟨h1, h2, h3, h4, h5, h6, h7, h8, h9, h10⟩ := h
  refine ⟨h1, ?_, ⟨q, by omega, ?_⟩, x, hx, ?_, ?_⟩
  · simp (disch := omega) only [gp_ne, gpa_ne, gp_sp, gp_sa, upd_eq, upd_ne, gq_sp, gq_sa]; exact h4
  · simp (disch := omega) only [gp_ne, gpa_ne, gp_sp, gp_sa, upd_eq, upd_ne, gq_sp, gq_sa]; exact h6
  · simp (disch := omega) only [gp_ne, gpa_ne, gp_sp, gp_sa, upd_eq, upd_ne, gq_sp, gq_sa]
  · simp (disch := omega) only [gp_ne, gpa_ne, gp_sp, gp_sa, upd_eq, upd_ne, gq_sp, gq_sa]
set_option maxHeartbeats 4000000 in
theorem nb_bad {T : kT} {m p : Nat} {lo hi : Int32} {C R : kM} (h : RS m p C R) (hw : p < m → ¬ okW lo hi (wW R p)) : F_113 T lo hi R = some (0, sp R lMo 23 (nI p)) := by
  obtain ⟨h1, h2, h3, h4, h5, h6, h7, h8, h9, h10⟩ := h
  have e28 : F_113_28 T R = some (0, sp R lMo 23 (nI p)) := by
    have r23 : gp (sp R lMo 23 (nI p)) lMo 23 = nI p := by simp (disch := omega) only [gp_ne, gpa_ne, gp_sp, gp_sa, upd_eq, upd_ne, gq_sp, gq_sa]
    have e51 : F_113_51 T (nI p) R = some (0, sp R lMo 23 (nI p)) := by
      unfold F_113_51 F_112 F_113_54
      rw [h8, if_neg (by decide), kBd_s, r23, if_neg (not_lt_of (pn_ge0 (by omega)))]
    unfold F_113_28
    rw [h4, h6]
    by_cases q : m ≤ p
    · rw [if_pos (by rw [pn_le (by omega) (by omega)]; omega), show m = p by omega, e51]
    · rw [if_neg (by rw [pn_le (by omega) (by omega)]; omega), e51]
  unfold F_113
  rw [h4, h6]
  by_cases q : m ≤ p
  · rw [if_pos (by rw [pn_le (by omega) (by omega)]; omega), e28]
  · have hb := hw (by omega)
    rw [if_neg (by rw [pn_le (by omega) (by omega)]; omega), kGx_nI (by omega) (by omega), pn_nat (by omega), h10 p (by omega)]
    unfold F_95
    by_cases q1 : wW R p < lo
    · rw [if_pos q1, kBd_s, if_pos rfl, e28]
    · have q2 : hi < wW R p := by
        have : ¬ wW R p ≤ hi := fun z => hb ⟨q1, z⟩
        rw [Int32.lt_iff_toInt_lt]; rw [Int32.le_iff_toInt_le] at this; omega
      rw [if_neg q1, if_pos q2, kBd_s, if_pos rfl, e28]
set_option maxHeartbeats 4000000 in
theorem ni_bad {T : kT} {m p : Nat} {lo hi : Int32} {C R : kM} (h : RS m p C R) (hw : p < m → ¬ okW lo hi (wW R p)) : ∃ v C', F_36 T lo hi C = some (v, C') ∧ (∃ x, C' = sp (sp C lRd 3 x) lRd 2 (nI p)) := by
  have hh := h
  obtain ⟨h1, h2, h3, h4, h5, h6, h7, h8, h9, h10⟩ := h
  have rid : sp C lRd 3 (gp C lRd 3) = C := sp_id _ _ _
  have f1 : ∀ a : Int32, F_36_23 T a (gp C lRd 3) (sp C lRd 2 (nI m)) = some (a, sp C lRd 2 (nI m)) := by
    intro a
    unfold F_36_23 F_34
    have : gp (sp C lRd 2 (nI m)) lRd 2 = nI m := by simp (disch := omega) only [gp_ne, gpa_ne, gp_sp, gp_sa, upd_eq, upd_ne, gq_sp, gq_sa]
    rw [this, if_neg (pn_ne1 (by omega)), kBd_s]
  unfold F_36
  by_cases q : m ≤ p
  · have e : p = m := by omega
    subst e
    rw [nw_end hh, kBd_s]
    by_cases q1 : (0 : Int32) < lo
    · rw [if_pos q1, f1]
      exact ⟨_, _, rfl, gp C lRd 3, by rw [rid]⟩
    · rw [if_neg q1]
      by_cases q2 : (0 : Int32) ≤ hi
      · rw [if_pos q2]; exact ⟨_, _, rfl, gp C lRd 3, by rw [rid]⟩
      · rw [if_neg q2, f1]; exact ⟨_, _, rfl, gp C lRd 3, by rw [rid]⟩
  · have hb := hw (by omega)
    have f2 : ∀ a : Int32, F_36_23 T a (gp C lRd 3) (sp C lRd 3 (nI (p + 1))) = some (a, sp (sp C lRd 3 (nI (p + 1))) lRd 2 (nI p)) := by
      intro a
      unfold F_36_23 F_34
      have : gp (sp C lRd 3 (nI (p + 1))) lRd 2 = -1 := by simp (disch := omega) only [gp_ne, gpa_ne, gp_sp, gp_sa, upd_eq, upd_ne, gq_sp, gq_sa]; exact h7
      rw [this, if_pos rfl, kBd_s, h5]
    rw [(nw_ok (T := T) hh (by omega)).1, kBd_s]
    by_cases q1 : wW R p < lo
    · rw [if_pos q1, f2]; exact ⟨_, _, rfl, _, rfl⟩
    · rw [if_neg q1, if_neg (fun z => hb ⟨q1, z⟩), f2]; exact ⟨_, _, rfl, _, rfl⟩
set_option maxHeartbeats 4000000 in
theorem fs_bad {m p : Nat} {C R : kM} {x : Int32} (h : RS m p C R) : FS m (sp (sp C lRd 3 x) lRd 2 (nI p)) (sp R lMo 23 (nI p)) := by
  obtain ⟨h1, h2, h3, h4, h5, h6, h7, h8, h9, h10⟩ := h
  refine ⟨h1, ?_, ⟨p, by omega, ?_⟩, p, by omega, ?_, ?_⟩
  · simp (disch := omega) only [gp_ne, gpa_ne, gp_sp, gp_sa, upd_eq, upd_ne, gq_sp, gq_sa]; exact h4
  · simp (disch := omega) only [gp_ne, gpa_ne, gp_sp, gp_sa, upd_eq, upd_ne, gq_sp, gq_sa]; exact h6
  · simp (disch := omega) only [gp_ne, gpa_ne, gp_sp, gp_sa, upd_eq, upd_ne, gq_sp, gq_sa]
  · simp (disch := omega) only [gp_ne, gpa_ne, gp_sp, gp_sa, upd_eq, upd_ne, gq_sp, gq_sa]
set_option maxHeartbeats 4000000 in
/-- when something was wrong nothing is read -/
theorem nw_fs {T : kT} {m : Nat} {C R : kM} (h : FS m C R) : F_35 T C = some (0, C) := by
  obtain ⟨h1, h2, h3, q, hq, h4, h5⟩ := h
  unfold F_35 F_33
  rw [h4, if_neg (pn_ne1 (by omega)), kBd_s, if_neg (by decide)]
set_option maxHeartbeats 4000000 in
theorem ni_fs {T : kT} {m : Nat} {lo hi : Int32} {C R : kM} (h : FS m C R) : ∃ v, F_36 T lo hi C = some (v, C) := by
  have e := nw_fs (T := T) h
  obtain ⟨h1, h2, h3, q, hq, h4, h5⟩ := h
  have f1 : F_36_23 T lo (gp C lRd 3) C = some (lo, C) := by
    unfold F_36_23 F_34
    rw [h4, if_neg (pn_ne1 (by omega)), kBd_s]
  unfold F_36
  rw [e, kBd_s]
  by_cases q1 : (0 : Int32) < lo
  · rw [if_pos q1, f1]; exact ⟨_, rfl⟩
  · rw [if_neg q1]
    by_cases q2 : (0 : Int32) ≤ hi
    · rw [if_pos q2]; exact ⟨_, rfl⟩
    · rw [if_neg q2, f1]; exact ⟨_, rfl⟩
set_option maxHeartbeats 4000000 in
theorem nb_fs {T : kT} {m : Nat} {lo hi : Int32} {C R : kM} (h : FS m C R) : F_113 T lo hi R = some (0, R) := by
  obtain ⟨h1, h2, ⟨p, hp, h6⟩, q, hq, h4, h5⟩ := h
  have w0 : 0 ≤ gp R lMo 23 := by rw [h5]; exact pn_ge0 (by omega)
  have e54 : F_113_54 T R = some (0, R) := by unfold F_113_54; rw [if_neg (not_lt_of w0)]
  have e51 : ∀ x, F_113_51 T x R = some (0, R) := by intro x; unfold F_113_51 F_112; rw [if_pos w0, kBd_s, e54]
  have e28 : F_113_28 T R = some (0, R) := by
    unfold F_113_28
    rw [e51, e51]
    by_cases z : gp R lMo 11 ≤ gp R lMo 22
    · rw [if_pos z]
    · rw [if_neg z]
  unfold F_113
  rw [h2, h6]
  by_cases z : m ≤ p
  · rw [if_pos (by rw [pn_le (by omega) (by omega)]; exact z), e28]
  · rw [if_neg (by rw [pn_le (by omega) (by omega)]; exact z), kGx_nI (by omega) (by omega)]
    unfold F_95
    by_cases z1 : gp R (lMa 12) (nI p).toNatClampNeg < lo
    · rw [if_pos z1, kBd_s, if_pos rfl, e28]
    · rw [if_neg z1]
      by_cases z2 : hi < gp R (lMa 12) (nI p).toNatClampNeg
      · rw [if_pos z2, kBd_s, if_pos rfl, e28]
      · rw [if_neg z2, kBd_s, if_neg (by decide), e54]
set_option maxHeartbeats 4000000 in
theorem okAny (w : Int32) : okW (-2147483648) 2147483647 w := by
  constructor
  · rw [Int32.lt_iff_toInt_lt]; have := Int32.le_toInt w; have e : (-2147483648 : Int32).toInt = -2147483648 := by decide
    omega
  · rw [Int32.le_iff_toInt_le]; have := Int32.toInt_lt w; have e : (2147483647 : Int32).toInt = 2147483647 := by decide
    omega
