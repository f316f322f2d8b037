set_option maxHeartbeats 4000000 in
theorem nmF_le {T : kT} {k t p p' : Nat} {C2 C R : kM} (hk10 : k ≤ 10) (h : nmF T k t p p' C2 C R) : p ≤ p' := by
  obtain ⟨-, n0, n1, n2, n3, n4, n7, n8, n10⟩ := h
  have hkk : k = 0 ∨ k = 1 ∨ k = 2 ∨ (k = 3 ∨ k = 5 ∨ k = 6 ∨ k = 9) ∨ k = 4 ∨ k = 7 ∨ k = 8 ∨ k = 10 := by omega
  rcases hkk with z | z | z | z | z | z | z | z
  · have := (n0 z).1; omega
  · have := (n1 z).1; omega
  · obtain ⟨w, -, -, -, e, -⟩ := n2 z; omega
  · have := n3 z; omega
  · have := (n4 z).1; omega
  · have := (n7 z).1; omega
  · have := (n8 z).1; omega
  · have := (n10 z).1; omega
set_option maxHeartbeats 4000000 in
theorem comb {T T3 : kT} {S S3 : kS} {m n t p d pp c e : Nat} {C R C5 R8 : kM} {X : Option (Option Nat × kT × kM)} (hX : ∀ r T2 C', X = some (r, T2, C') → T3.1 ≤ T2.1 → T3.2 ≤ T2.2 → F_38r T (e + 1) (nI d) C = some (r, T2, C')) (hY : Oo T d R = Ii T3 (d + 1) R8) (t1 : T3.1 = T.1) (t2 : T.2 ≤ T3.2) (fc : frT t C C5) (fr : frU t d (lnk0 R t d pp) R8) (ag : agr S S3 0 t) (tg : tagr S S3)
    (h : noR T3 m n t C5 R8 X (Ii T3 (d + 1) R8) ∨ okR T3 S3 m t p d pp C5 (if d = 0 then R8 else sp R8 (lMa 33) (d - 1) (nI c)) X (Ii T3 (d + 1) R8)) :
    noR T m 0 t C R (F_38r T (e + 1) (nI d) C) (Oo T d R) ∨ okR T S m t p d pp C (lnk R t d pp c) (F_38r T (e + 1) (nI d) C) (Oo T d R) := by
  rcases h with ⟨T', C', R', n', a1, a2, a3, a4, a5, a6, a7, a8⟩ | ⟨T', C', R', S', n', p', ⟨a1, a2, a3, a4, a5, a6, a7, a8, a9⟩, ⟨b1, b2, b3, b4, b5, b6, b7, b8, b9⟩, c1, c2⟩
  · exact Or.inl ⟨T', C', R', n', hX _ _ _ a1 (by omega) a6, hY.trans a2, a3, a4, by omega, by omega, frT_trans fc a7 (Nat.le_refl _) (Nat.le_refl _), frU_tr (frU_tr lnk0_fr (frU_0 fr)) a8⟩
  · exact Or.inr ⟨T', C', R', S', n', p', ⟨hX _ _ _ a1 (by omega) a9, (hY.trans a2).trans (Ii_T T3 T d R'), a3, a4, a5, a6, a7, by omega, by omega⟩, ⟨agr_trans ag b1 (Nat.le_refl _) (Nat.le_refl _), tagr_trans tg b2, b3, b4, b5, b6, b7, b8, b9⟩, frT_trans fc c1 (Nat.le_refl _) (Nat.le_refl _), frU_tr (lnk_end fr) c2⟩
set_option maxHeartbeats 4000000 in
theorem fs_r {m : Nat} {C R R' : kM} (h : gp R' lMo = gp R lMo) (g : FS m C R) : FS m C R' := by
  unfold FS at *; rw [h]; exact g
set_option maxHeartbeats 4000000 in
theorem rs_r {m p : Nat} {C R R' : kM} (h : gp R' lMo = gp R lMo) (h2 : gp R' (lMa 13) = gp R (lMa 13)) (h3 : gp R' (lMa 12) = gp R (lMa 12)) (g : RS m p C R) : RS m p C R' := by
  unfold RS wW at *; rw [h, h2, h3]; exact g
set_option maxHeartbeats 4000000 in
theorem fs_dead {m : Nat} {C R : kM} (h : FS m C R) : ¬ gp C lRd 2 = -1 := by
  obtain ⟨-, -, -, q, hq, h4, -⟩ := h
  rw [h4]; exact pn_ne1 (by omega)
set_option maxHeartbeats 4000000 in
theorem pts_1 {k : Nat} (h : k ≠ 0) (h2 : ¬ (3 ≤ k ∧ k ≤ 5)) : pts k = 1 := by unfold pts; rw [if_neg h, if_neg h2]
set_option maxHeartbeats 4000000 in
theorem pts_2 {k : Nat} (h2 : 3 ≤ k ∧ k ≤ 5) : pts k = 2 := by unfold pts; rw [if_neg (by omega), if_pos h2]
set_option maxHeartbeats 4000000 in
theorem stT_7 {T : kT} {n t i : Nat} {o : Option Nat} {C : kM} (hi : i = 7 ∨ i = 8) (ho : ∀ j, o = some j → j < T.2) (h : stT T n C) : stT T n (sq C (lTm t) i o) := by
  have g : ∀ x, x ≠ i → gq (sq C (lTm t) i o) (lTm t) x = gq C (lTm t) x := fun x z => by rw [gq_sq, va_up_ne _ _ z]
  have g' : gq (sq C (lTm t) i o) (lTm t) i = o := by rw [gq_sq, va_up_self]
  refine stT_cg (t := t) (C := C) rfl rfl (fun l z => gq_sq_ne z) (fun j z => Or.inl (by rw [g 6 (by omega)] at z; exact z)) (fun j z => ?_) (fun j z => ?_) h
  · by_cases q : i = 7
    · subst q; rw [g'] at z; exact Or.inr (ho j z)
    · rw [g 7 (by omega)] at z; exact Or.inl z
  · by_cases q : i = 8
    · subst q; rw [g'] at z; exact Or.inr (ho j z)
    · rw [g 8 (by omega)] at z; exact Or.inl z
set_option maxHeartbeats 4000000 in
theorem rd_bad {T : kT} {m p t d e : Nat} {C R : kM} (hd : d ≤ 10) (hs : RS m p C R) (st : stT T t C) (ok : ¬ (d < 10 ∧ p < m ∧ okW 0 10 (wW R p))) : noR T m 0 t C R (F_38r T (e + 1) (nI d) C) (Oo T d R) := by
  have m60 := hs.1
  have pm := hs.2.1
  have r2 := hs.2.2.2.2.2.2.1
  have hb : d = 10 ∨ (p < m → ¬ okW 0 10 (wW R p)) := by
    by_cases z : d = 10
    · exact Or.inl z
    · exact Or.inr (fun a b => ok ⟨by omega, a, b⟩)
  obtain ⟨R', o1, o2, o3, o4⟩ := o_bad (T := T) hs hd hb
  have r11 : gp R' lMo 11 = nI m := by rw [o2.2.1 11 (by decide) (by decide)]; exact hs.2.2.2.1
  by_cases d10 : d = 10
  · have e1 : F_38r T (e + 1) (nI d) C = some (none, T, sp C lRd 2 (nI p)) := by
      show F_38 T (ak38 e) (nI d) C = _
      unfold F_38 F_34
      rw [if_neg (by rw [pn_ltL _ (by omega) (by omega)]; omega), r2, if_pos rfl, kBd_s, hs.2.2.2.2.1]
    exact ⟨T, _, R', t, e1, o1, ⟨m60, r11, o4, p, by omega, by simp (disch := omega) only [gp_ne, gpa_ne, gp_sp, gp_sa, upd_eq, upd_ne, gq_sp, gq_sa], o3⟩, stT_rel relC_2 st, rfl, Nat.le_refl _, frT_rd (Or.inl rfl), frU_rel o2⟩
  · obtain ⟨v, C', e36, x, ex⟩ := ni_bad (T := T) hs (hb.resolve_left d10)
    have g2 : gp C' lRd 2 = nI p := by rw [ex]; simp (disch := omega) only [gp_ne, gpa_ne, gp_sp, gp_sa, upd_eq, upd_ne, gq_sp, gq_sa]
    have rc : relC C C' := by rw [ex]; exact relC_32
    have e37 : F_37 T v C' = some (none, T, C') := by
      unfold F_37 F_33
      rw [g2, if_neg (pn_ne1 (by omega)), kBd_s, if_neg (by decide)]
    have e1 : F_38r T (e + 1) (nI d) C = some (none, T, C') := by
      show F_38 T (ak38 e) (nI d) C = _
      unfold F_38
      rw [if_pos (by rw [pn_ltL _ (by omega) (by omega)]; omega), e36, kBd_s, e37, kBt_s, kOpt_n]
      exact kCh_s (Nat.le_refl _) (Nat.le_refl _) (Nat.le_refl _) (Nat.le_refl _)
    exact ⟨T, C', R', t, e1, o1, ⟨m60, r11, o4, p, by omega, g2, o3⟩, stT_rel rc st, rfl, Nat.le_refl _, frT_rel rc, frU_rel o2⟩
