abbrev noR (T : kT) (m n t : Nat) (C R : kM) (x : Option (Option Nat × kT × kM)) (y : Option (Unit × kM)) : Prop := ∃ T' C' R' n', x = some (none, T', C') ∧ y = some ((), R') ∧ FS m C' R' ∧ stT T' n' C' ∧ T'.1 = T.1 ∧ T.2 ≤ T'.2 ∧ frT t C C' ∧ frU 0 0 R R'
set_option maxHeartbeats 4000000 in
theorem f145 {T : kT} {t p : Nat} {v : Int32} {C : kM} {ak : kT → Int32 → kM → Option (Option Nat × kT × kM)} (h2 : gp C lRd 2 = -1) (ht : t < T.2) (h41 : F_41 T (some t) C = some (v, C)) (hv : v < 1 ∨ ¬ v ≤ 12) : F_38_107 T ak (nI p) t C = some (none, T, sp (sp C (lTm t) 9 v) lRd 2 (nI p)) := by
  have g9 : gp (sp C (lTm t) 9 v) (lTm t) 9 = v := by simp (disch := omega) only [gp_ne, gpa_ne, gp_sp, gp_sa, upd_eq, upd_ne, gq_sp, gq_sa]
  have g2 : gp (sp C (lTm t) 9 v) lRd 2 = -1 := by simp (disch := omega) only [gp_ne, gpa_ne, gp_sp, gp_sa, upd_eq, upd_ne, gq_sp, gq_sa]; exact h2
  have e : F_38_145 T ak (nI p) (sp C (lTm t) 9 v) = some (none, T, sp (sp C (lTm t) 9 v) lRd 2 (nI p)) := by
    unfold F_38_145 F_34
    rw [g2, if_pos rfl, kBd_s]
  unfold F_38_107 F_33
  rw [h2, if_pos rfl, kBd_s, if_pos rfl, h41, kBd_s, lv_tm ht, kGd_t, g9, e]
  by_cases q : v < 1
  · rw [if_pos q]
  · rw [if_neg q, if_neg (hv.resolve_left q)]
set_option maxHeartbeats 4000000 in
theorem fin_no {T : kT} {S : kS} {m k t p p1 p3 n3 d pp c sn n : Nat} {g v : Int32} {C2 C R : kM} {ak : kT → Int32 → kM → Option (Option Nat × kT × kM)} (h : preF T S m k t p p1 p3 n3 d pp c sn C2 C R) (h41 : F_41 T (some t) C = some (v, C)) (hv : v < 1 ∨ ¬ v ≤ 12) (hl : F_119 T (nI t) (nI k) R = F_119_291 T (nI t) g (nI n) R) (hn : g = 1 → n < 1000) (hg : g = 0 ∨ g = 1) (hgn : ¬ (g = 1 ∧ n ≤ 12)) :
    noR T m n3 t C R (F_38_107 T ak (nI p) t C) (Ii T (d + 1) R) := by
  have er := fin_ref h hl hn hg
  simp only [if_neg hgn] at er
  obtain ⟨⟨hd, htn, hnp, hk10, hpp⟩, ⟨hs, st, hu, tb, kid⟩, ⟨hb, nm, hk, hw, hp1⟩, ⟨r17, r18, d0, r32, r33, r33'⟩, k0, k1, nb, un, bi⟩ := h
  have m60 := hs.1
  have pm := hs.2.1
  have tT : t < T.2 := by have := st.2.2.1; omega
  have ec := f145 (T := T) (p := p) (ak := ak) hs.2.2.2.2.2.2.1 tT h41 hv
  have fc : stT T n3 (sp (sp C (lTm t) 9 v) lRd 2 (nI p)) := by
    refine stT_cg (t := t) ?_ ?_ (fun l _ => rfl) (fun j z => Or.inl z) (fun j z => Or.inl z) (fun j z => Or.inl z) st
    · simp (disch := omega) only [gp_ne, gpa_ne, gp_sp, gp_sa, upd_eq, upd_ne, gq_sp, gq_sa]
    · simp (disch := omega) only [gp_ne, gpa_ne, gp_sp, gp_sa, upd_eq, upd_ne, gq_sp, gq_sa]
  have gc : gp (sp (sp C (lTm t) 9 v) lRd 2 (nI p)) lRd 2 = nI p := by simp (disch := omega) only [gp_ne, gpa_ne, gp_sp, gp_sa, upd_eq, upd_ne, gq_sp, gq_sa]
  have frc : frT t C (sp (sp C (lTm t) 9 v) lRd 2 (nI p)) := frT_trans frT_tm (frT_rd (Or.inl rfl)) (Nat.le_refl _) (Nat.le_refl _)
  have fru : frU 0 0 R (sp (sp (sp R (lMa 21) t (nI n)) lMo 23 (nI p)) (lMa 34) t (nI (n3 - 1))) := frU_trans (frU_trans (frU_ma (by omega)) (frU_mo (by omega)) (Nat.le_refl _) (Nat.le_refl _) (Nat.le_refl _) (Nat.le_refl _)) (frU_ma (by omega)) (Nat.le_refl _) (Nat.le_refl _) (Nat.le_refl _) (Nat.le_refl _)
  by_cases q : d = 0
  · rw [if_pos q] at er
    have g23 : gp (sp (sp (sp R (lMa 21) t (nI n)) lMo 23 (nI p)) (lMa 34) t (nI (n3 - 1))) lMo 23 = nI p := by simp (disch := omega) only [gp_ne, gpa_ne, gp_sp, gp_sa, upd_eq, upd_ne, gq_sp, gq_sa]
    refine ⟨T, _, _, n3, ec, by rw [er]; exact i_fail (by rw [g23]; exact pn_ge0 (by omega)), ⟨m60, ?_, ⟨p3, by omega, ?_⟩, p, by omega, gc, g23⟩, fc, rfl, Nat.le_refl _, frc, fru⟩
    · simp (disch := omega) only [gp_ne, gpa_ne, gp_sp, gp_sa, upd_eq, upd_ne, gq_sp, gq_sa]; exact hs.2.2.2.1
    · simp (disch := omega) only [gp_ne, gpa_ne, gp_sp, gp_sa, upd_eq, upd_ne, gq_sp, gq_sa]; exact hs.2.2.2.2.2.1
  · rw [if_neg q] at er
    have g23 : gp (sp (sp (sp (sp R (lMa 21) t (nI n)) lMo 23 (nI p)) (lMa 34) t (nI (n3 - 1))) (lMa 33) (d - 1) (nI c)) lMo 23 = nI p := by simp (disch := omega) only [gp_ne, gpa_ne, gp_sp, gp_sa, upd_eq, upd_ne, gq_sp, gq_sa]
    refine ⟨T, _, _, n3, ec, by rw [er]; exact i_fail (by rw [g23]; exact pn_ge0 (by omega)), ⟨m60, ?_, ⟨p3, by omega, ?_⟩, p, by omega, gc, g23⟩, fc, rfl, Nat.le_refl _, frc, frU_trans fru (frU_ma (by omega)) (Nat.le_refl _) (Nat.le_refl _) (Nat.le_refl _) (Nat.le_refl _)⟩
    · simp (disch := omega) only [gp_ne, gpa_ne, gp_sp, gp_sa, upd_eq, upd_ne, gq_sp, gq_sa]; exact hs.2.2.2.1
    · simp (disch := omega) only [gp_ne, gpa_ne, gp_sp, gp_sa, upd_eq, upd_ne, gq_sp, gq_sa]; exact hs.2.2.2.2.2.1
