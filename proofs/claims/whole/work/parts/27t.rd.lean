abbrev RdP (e : Nat) : Prop := ∀ (T : kT) (S : kS) (m p t d pp c : Nat) (C R : kM), d ≤ 10 → 11 ≤ d + e → RS m p C R → stT T t C → gp R lMo 16 = nI t → t ≤ p → tbO T S C R → (d = 0 → t = 0) → (d ≠ 0 → gp R (lMa 32) (d - 1) = nI pp ∧ pp < t ∧ gp R (lMa 33) (d - 1) = nI (c + 1)) → noR T m 0 t C R (F_38r T e (nI d) C) (Oo T d R) ∨ okR T S m t p d pp C (lnk R t d pp c) (F_38r T e (nI d) C) (Oo T d R)
set_option maxHeartbeats 4000000 in
/-- a node whose numbers have been read: its parts, and its end -/
theorem rd_kids {T T1 : kT} {S : kS} {m p p1 t d pp c e k : Nat} {C C2 C3 R R6 : kM} (ih : RdP e) (hd : d < 10) (he : 11 ≤ d + (e + 1)) (hk10 : k ≤ 10)
    (hX : ∀ r T2 C', (if nI (pts k) < 1 then F_38_81 T1 (ak38 e) (nI d) (nI p) t (nI (pts k)) C3 else kBd (F_33 T1 C3) (fun r21 M22 => if r21 = 0 then kBt (F_38r T1 e (nI (d + 1)) M22) (fun r25 T26 M27 => kCh T1 T26 (kGd (kLv T26 (lTm t)) (F_38_81 T26 (ak38 e) (nI d) (nI p) t (nI (pts k)) (sq M27 (lTm t) 7 r25)))) else F_38_81 T1 (ak38 e) (nI d) (nI p) t (nI (pts k)) M22)) = some (r, T2, C') → T1.1 ≤ T2.1 → T1.2 ≤ T2.2 → F_38r T (e + 1) (nI d) C = some (r, T2, C'))
    (hY : Oo T d R = Ii T (d + 1) R6) (t1 : T1.1 = T.1) (t2 : T.2 ≤ T1.2) (fc : frT t C C3) (fr : frU t d (lnk0 R t d pp) R6) (rs : RS m p1 C3 R6) (st : stT T1 (t + 1) C3) (hu : gp R6 lMo 16 = nI (t + 1)) (htp : t ≤ p) (hp1 : p + 1 ≤ p1) (tb : tbO T1 S C3 R6) (d0 : d = 0 → t = 0) (hb : beg k t C2) (nm : nmF T1 k t (p + 1) p1 C2 C3 R6) (hk : gp C3 (lTm t) 0 = nI k) (hw : wW R6 p = nI k) (q7 : gq C3 (lTm t) 7 = none) (q8 : gq C3 (lTm t) 8 = none) (op : opn t d p pp c (pts k) (-1) (-1) R6) :
    noR T m 0 t C R (F_38r T (e + 1) (nI d) C) (Oo T d R) ∨ okR T S m t p d pp C (lnk R t d pp c) (F_38r T (e + 1) (nI d) C) (Oo T d R) := by
  have m60 := rs.1
  have pm := rs.2.1
  have r2 := rs.2.2.2.2.2.2.1
  have tT1 : t < T1.2 := by have := st.2.2.1; omega
  by_cases k0 : k = 0
  · have pt0 : pts k = 0 := by unfold pts; rw [if_pos k0]
    have pre : preF T1 S m k t p p1 p1 (t + 1) d pp c 0 C2 C3 R6 := by
      obtain ⟨a1, a2, a3, a4, a5, a6, a7⟩ := op
      rw [pt0] at a6
      exact ⟨⟨hd, by omega, by omega, hk10, by omega⟩, ⟨rs, st, hu, tb, fun i x y => by omega⟩, ⟨hb, nm, hk, hw, Nat.le_refl _⟩, ⟨a1, a2, d0, a5, a6, a7⟩, fun _ => ⟨q7, a3, rfl, rfl⟩, fun z => absurd k0 z, fun _ => ⟨q8, a4⟩, fun z => absurd k0 z, fun z => by omega⟩
    refine comb (X := F_38_107 T1 (ak38 e) (nI p) t C3) (T3 := T1) (S3 := S) (n := t + 1) (fun r T2 C' x1 x2 x3 => hX r T2 C' ?_ x2 x3) (hY.trans (Ii_T _ _ _ _)) t1 t2 fc fr (agr_refl _ _ _) (tagr_refl _) (fin_all pre)
    rw [pt0, if_pos (show nI 0 < 1 by decide)]
    unfold F_38_81
    rw [if_pos (show nI 0 < 2 by decide)]
    exact x1
  · have pt1 : 1 ≤ pts k ∧ pts k ≤ 2 := by
      by_cases z : 3 ≤ k ∧ k ≤ 5
      · rw [pts_2 z]; omega
      · rw [pts_1 k0 z]; omega
    have np1 : ¬ nI (pts k) < 1 := by rw [pn_ltL _ (by omega) (by omega)]; omega
    rw [if_neg np1] at hX
    unfold F_33 at hX
    rw [r2, if_pos rfl, kBd_s, if_pos rfl] at hX
    have opx := op
    obtain ⟨a1, a2, a3, a4, a5, a6, a7⟩ := op
    have hY2 : Oo T d R = Oo T1 (d + 1) R6 := by
      rw [hY, i_more (by omega) rs.2.2.2.2.2.2.2.1 a6 pt1.1 pt1.2]; exact Oo_T _ _ _ _
    have opy : opn t d p pp c ((pts k - 1) + 1) (-1) (-1) R6 := by rw [show pts k - 1 + 1 = pts k by omega]; exact opx
    rcases ih T1 S m p1 (t + 1) (d + 1) t (pts k - 1) C3 R6 (by omega) (by omega) rs st hu (by omega) tb (fun z => by omega) (fun _ => ⟨a5, by omega, by rw [show pts k - 1 + 1 = pts k by omega]; exact a6⟩) with ⟨T2, C4, R7, n2, x1, x2, x3, x4, x5, x6, x7, x8⟩ | ⟨T2, C4, R7, S2, n2, p2, ⟨x1, x2, x3, x4, x5, x6, x7, x8, x9⟩, ⟨y1, y2, y3, y4, y5, y6, y7, y8, y9⟩, z1, z2⟩
    · have dead := fs_dead x3
      refine Or.inl ⟨T2, sq C4 (lTm t) 7 none, R7, n2, hX _ _ _ ?_ (by omega) x6, hY2.trans x2, FS_c rfl x3, stT_7 (Or.inl rfl) (fun j z => absurd z (by simp)) x4, by omega, by omega, frT_trans fc (frT_trans x7 frT_tq (by omega) (Nat.le_refl _)) (Nat.le_refl _) (Nat.le_refl _), frU_tr (frU_tr lnk0_fr (frU_0 fr)) x8⟩
      rw [x1, kBt_s, lv_tm (by omega), kGd_t, dead81 (by exact dead)]
      exact kCh_s (by omega) x6 (Nat.le_refl _) (Nat.le_refl _)
    · -- the first part is read
      have tT2 : t < T2.2 := by omega
      have t1T2 : t + 1 < T2.2 := by have := x4.2.2.1; omega
      rw [x1, kBt_s, lv_tm tT2, kGd_t] at hX
      have st5 : stT T2 n2 (sq C4 (lTm t) 7 (some (t + 1))) := stT_7 (Or.inl rfl) (fun j z => by cases z; exact t1T2) x4
      have op7 : opn t d p pp c (pts k - 1) (nI (t + 1)) (-1) R7 := opn_fr z2 (opn_l1 opy)
      have ftm : gp C4 (lTm t) = gp C3 (lTm t) := z1.1 (lTm t) (by simp) (by simp only; omega)
      have fpk : gp C4 (lPk t) = gp C3 (lPk t) := z1.1 (lPk t) (by simp) (by simp only; omega)
      have fqt : gq C4 (lTm t) = gq C3 (lTm t) := z1.2.1 (lTm t) (by simp) (by simp only; omega)
      have fr7 : frU t d R6 R7 := frU_trans lnk_fr z2 (Nat.le_refl _) (by omega) (Nat.le_refl _) (by omega)
      have fr7' : frU t d (lnk0 R t d pp) R7 := frU_tr fr fr7
      have fc5 : frT t C3 (sq C4 (lTm t) 7 (some (t + 1))) := frT_trans z1 frT_tq (by omega) (Nat.le_refl _)
      have w13 : gp R7 (lMa 13) = gp R6 (lMa 13) := fr7.2.1 (lMa 13) (by simp) (by simp)
      have g6 : gq (sq C4 (lTm t) 7 (some (t + 1))) (lTm t) 6 = gq C4 (lTm t) 6 := by rw [gq_sq, va_up_ne _ _ (by decide)]
      have g7 : gq (sq C4 (lTm t) 7 (some (t + 1))) (lTm t) 7 = some (t + 1) := by rw [gq_sq, va_up_self]
      have g8 : gq (sq C4 (lTm t) 7 (some (t + 1))) (lTm t) 8 = none := by rw [gq_sq, va_up_ne _ _ (by decide), fqt]; exact q8
      have nm7 : nmF T2 k t (p + 1) p1 C2 (sq C4 (lTm t) 7 (some (t + 1))) R7 := nmF_cg (by omega) ftm fpk (by rw [g6, fqt]) w13 nm
      have rs7 : RS m p2 (sq C4 (lTm t) 7 (some (t + 1))) R7 := RS_c rfl rfl x3
      have tb7 : tbO T2 S2 (sq C4 (lTm t) 7 (some (t + 1))) R7 := tbO_fr (by omega) y2 fc5 fr7 tb
      have hk7 : gp (sq C4 (lTm t) 7 (some (t + 1))) (lTm t) 0 = nI k := by show gp C4 (lTm t) 0 = _; rw [ftm]; exact hk
      have hw7 : wW R7 p = nI k := by show gp R7 (lMa 13) p = _; rw [w13]; exact hw
      have dn7 : dn S2 (t + 1) n2 (sq C4 (lTm t) 7 (some (t + 1))) R7 := fun i i1 i2 => by
        obtain ⟨b1, b2, b3⟩ := y3 i i1 i2
        have nt : (lTm i) ≠ lTm t := by simp only [ne_eq, Prod.mk.injEq, true_and]; omega
        exact ⟨ndC_cg (C := C4) rfl rfl (gq_sq_ne nt) b1, b2, b3⟩
      have p2m : p2 ≤ m := rs7.2.1
      by_cases kb : 3 ≤ k ∧ k ≤ 5
      · -- a second part
        have p2e := pts_2 kb
        rw [p2e] at hX op7
        have hY3 : Oo T d R = Oo T2 (d + 1) R7 := by
          have hi : Ii T1 (d + 1) R7 = Oo T1 (d + 1) R7 := i_more (by omega) x3.2.2.2.2.2.2.2.1 (c := 1) op7.2.2.2.2.2.1 (Nat.le_refl _) (by omega)
          exact ((hY2.trans x2).trans hi).trans (Oo_T _ _ _ _)
        rcases ih T2 S2 m p2 n2 (d + 1) t 0 (sq C4 (lTm t) 7 (some (t + 1))) R7 (by omega) (by omega) rs7 st5 x5 x7 tb7 (fun z => by omega) (fun _ => ⟨op7.2.2.2.2.1, by omega, op7.2.2.2.2.2.1⟩) with ⟨T3, C5, R8, n3, u1, u2, u3, u4, u5, u6, u7, u8⟩ | ⟨T3, C5, R8, S3, n3, p3, ⟨u1, u2, u3, u4, u5, u6, u7, u8, u9⟩, ⟨v1, v2, v3, v4, v5, v6, v7, v8, v9⟩, w1, w2⟩
        · have dead := fs_dead u3
          refine Or.inl ⟨T3, sq C5 (lTm t) 8 none, R8, n3, hX _ _ _ ?_ (by omega) (by omega), hY3.trans u2, FS_c rfl u3, stT_7 (Or.inr rfl) (fun j z => absurd z (by simp)) u4, by omega, by omega, frT_trans fc (frT_trans fc5 (frT_trans u7 frT_tq (by omega) (Nat.le_refl _)) (Nat.le_refl _) (Nat.le_refl _)) (Nat.le_refl _) (Nat.le_refl _), frU_tr (frU_tr lnk0_fr (frU_0 fr7')) u8⟩
          have e81 : F_38_81 T2 (ak38 e) (nI d) (nI p) t (nI 2) (sq C4 (lTm t) 7 (some (t + 1))) = some (none, T3, sq C5 (lTm t) 8 none) := by
            unfold F_38_81 F_33
            rw [if_neg (show ¬ nI 2 < 2 by decide), if_pos rs7.2.2.2.2.2.2.1, kBd_s, if_pos rfl, lv_tm tT2, kGd_t, pn_addL]
            show kBt (F_38r T2 e (nI (d + 1)) (sq C4 (lTm t) 7 (some (t + 1)))) _ = _
            rw [u1, kBt_s, lv_tm (by omega), kGd_t, dead107 (by exact dead)]
            exact kCh_s (by omega) u6 (Nat.le_refl _) (Nat.le_refl _)
          rw [e81]
          exact kCh_s (by omega) (by omega) (by omega) (by omega)
        · have tT3 : t < T3.2 := by omega
          have st6 : stT T3 n3 (sq C5 (lTm t) 8 (some n2)) := stT_7 (Or.inr rfl) (fun j z => by cases z; have := u4.2.2.1; omega) u4
          have op8 : opn t d p pp c 0 (nI (t + 1)) (nI n2) R8 := opn_fr (frU_le w2 (by omega) (Nat.le_refl _)) (opn_l2 (by omega) op7)
          have ftm' : gp C5 (lTm t) = gp C4 (lTm t) := w1.1 (lTm t) (by simp) (by simp only; omega)
          have fpk' : gp C5 (lPk t) = gp C4 (lPk t) := w1.1 (lPk t) (by simp) (by simp only; omega)
          have fqt' : gq C5 (lTm t) = gq (sq C4 (lTm t) 7 (some (t + 1))) (lTm t) := w1.2.1 (lTm t) (by simp) (by simp only; omega)
          have fr8 : frU t d R7 R8 := frU_trans lnk_fr w2 (Nat.le_refl _) (by omega) (Nat.le_refl _) (by omega)
          have fc6 : frT t (sq C4 (lTm t) 7 (some (t + 1))) (sq C5 (lTm t) 8 (some n2)) := frT_trans w1 frT_tq (by omega) (Nat.le_refl _)
          have w13' : gp R8 (lMa 13) = gp R7 (lMa 13) := fr8.2.1 (lMa 13) (by simp) (by simp)
          have h6 : gq (sq C5 (lTm t) 8 (some n2)) (lTm t) 6 = gq C5 (lTm t) 6 := by rw [gq_sq, va_up_ne _ _ (by decide)]
          have h7 : gq (sq C5 (lTm t) 8 (some n2)) (lTm t) 7 = some (t + 1) := by rw [gq_sq, va_up_ne _ _ (by decide), fqt']; exact g7
          have h8 : gq (sq C5 (lTm t) 8 (some n2)) (lTm t) 8 = some n2 := by rw [gq_sq, va_up_self]
          have nm8 : nmF T3 k t (p + 1) p1 C2 (sq C5 (lTm t) 8 (some n2)) R8 := nmF_cg (C := sq C4 (lTm t) 7 (some (t + 1))) (by omega) ftm' fpk' (by rw [h6, fqt']) w13' nm7
          have rs8 : RS m p3 (sq C5 (lTm t) 8 (some n2)) R8 := RS_c rfl rfl u3
          have tb8 : tbO T3 S3 (sq C5 (lTm t) 8 (some n2)) R8 := tbO_fr (by omega) v2 fc6 fr8 tb7
          have hk8 : gp (sq C5 (lTm t) 8 (some n2)) (lTm t) 0 = nI k := by show gp C5 (lTm t) 0 = _; rw [ftm']; exact hk7
          have hw8 : wW R8 p = nI k := by show gp R8 (lMa 13) p = _; rw [w13']; exact hw7
          have p3m : p3 ≤ m := rs8.2.1
          have ag12 : agr S2 S3 (t + 1) n2 := fun i i1 i2 => v1 i (Nat.zero_le _) i2
          have dn8 : dn S3 (t + 1) n3 (sq C5 (lTm t) 8 (some n2)) R8 := fun i i1 i2 => by
            have nt : (lTm i) ≠ lTm t := by simp only [ne_eq, Prod.mk.injEq, true_and]; omega
            by_cases q : i < n2
            · obtain ⟨b1, b2, b3⟩ := dn7 i i1 q
              refine ⟨ndC_agr b3 ag12 i1 q (ndC_cg (C := C5) rfl rfl (gq_sq_ne nt) (ndC_fr w1 q b1)), ndR_agr b3 ag12 i1 q (ndR_fr w2 q (ndR_cg (fun j hj => ?_) ?_ ?_ b2)), nOk_mono (nOk_agr b3 ag12 v2 i1 q) (by omega)⟩
              · unfold lnk lnk0
                rw [if_neg (by omega), if_neg (by omega), op7.2.2.1, if_pos (pn_ge0 (by omega))]
                rw [gp_ne (by omega)]
                by_cases j20 : j = 20
                · subst j20; rw [gp_sp, upd_ne (by omega)]
                · rw [gp_ne (by omega)]
              · exact lnk_fr.2.1 (lMa 13) (by simp) (by simp)
              · exact lnk_fr.2.1 (lMa 3) (by simp) (by simp)
            · obtain ⟨b1, b2, b3⟩ := v3 i (by omega) i2
              exact ⟨ndC_cg (C := C5) rfl rfl (gq_sq_ne nt) b1, b2, b3⟩
          have s1 := v1 (t + 1) (Nat.zero_le _) x6
          have s16 : hg S3 (t + 1) = hg S2 (t + 1) := s1.1 16
          have s9 : par S3 (t + 1) = par S2 (t + 1) := s1.1 9
          have s1' : en S3 (t + 1) = en S2 (t + 1) := s1.1 1
          have s7 : wc S3 (t + 1) = wc S2 (t + 1) := s1.1 7
          have pre : preF T3 S3 m k t p p1 p3 n3 d pp c n2 C2 (sq C5 (lTm t) 8 (some n2)) R8 := by
            refine ⟨⟨hd, by omega, u7, hk10, by omega⟩, ⟨rs8, st6, u5, tb8, dn8⟩, ⟨hb, nm8, hk8, hw8, by omega⟩, ⟨op8.1, op8.2.1, d0, op8.2.2.2.2.1, op8.2.2.2.2.2.1, op8.2.2.2.2.2.2⟩, fun z => absurd z k0, fun _ => ⟨h7, op8.2.2.1, by omega, y9, by rw [s16]; exact y7, by rw [s9]; exact y8 (by omega)⟩, fun z => absurd kb z, fun _ z => absurd kb z, fun _ => ⟨h8, op8.2.2.2.1, by rw [s1']; omega, u6, v7, v8 (by omega), v4, by rw [s7]; omega⟩⟩
          refine comb (X := F_38_107 T3 (ak38 e) (nI p) t (sq C5 (lTm t) 8 (some n2))) (T3 := T3) (S3 := S3) (n := n3) (C5 := sq C5 (lTm t) 8 (some n2)) (R8 := R8) (fun r T4 C' x1 x2 x3 => hX r T4 C' ?_ (by omega) (by omega)) ((hY3.trans u2).trans (Ii_T _ _ _ _)) (by omega) (by omega) (frT_trans fc (frT_trans fc5 fc6 (Nat.le_refl _) (Nat.le_refl _)) (Nat.le_refl _) (Nat.le_refl _)) (frU_tr fr7' fr8) (agr_trans (fun i i1 i2 => y1 i i1 (by omega)) v1 (Nat.le_refl _) (by omega)) (tagr_trans y2 v2) (fin_all pre)
          have e81 : F_38_81 T2 (ak38 e) (nI d) (nI p) t (nI 2) (sq C4 (lTm t) 7 (some (t + 1))) = some (r, T4, C') := by
            unfold F_38_81 F_33
            rw [if_neg (show ¬ nI 2 < 2 by decide), if_pos rs7.2.2.2.2.2.2.1, kBd_s, if_pos rfl, lv_tm tT2, kGd_t, pn_addL]
            show kBt (F_38r T2 e (nI (d + 1)) (sq C4 (lTm t) 7 (some (t + 1)))) _ = _
            rw [u1, kBt_s, lv_tm tT3, kGd_t, x1]
            exact kCh_s (by omega) u9 x2 x3
          rw [e81]
          exact kCh_s (by omega) (by omega) (by omega) (by omega)
      · have p2e := pts_1 k0 kb
        rw [p2e] at hX op7
        have pre : preF T2 S2 m k t p p1 p2 n2 d pp c 0 C2 (sq C4 (lTm t) 7 (some (t + 1))) R7 := by
          refine ⟨⟨hd, by omega, x7, hk10, by omega⟩, ⟨rs7, st5, x5, tb7, dn7⟩, ⟨hb, nm7, hk7, hw7, by omega⟩, ⟨op7.1, op7.2.1, d0, op7.2.2.2.2.1, op7.2.2.2.2.2.1, op7.2.2.2.2.2.2⟩, fun z => absurd z k0, fun _ => ⟨g7, op7.2.2.1, by omega, y9, y7, y8 (by omega)⟩, fun _ => ⟨g8, op7.2.2.2.1⟩, fun _ _ => ⟨y4, y6⟩, fun z => absurd z kb⟩
        refine comb (X := F_38_107 T2 (ak38 e) (nI p) t (sq C4 (lTm t) 7 (some (t + 1)))) (T3 := T2) (S3 := S2) (n := n2) (C5 := sq C4 (lTm t) 7 (some (t + 1))) (R8 := R7) (fun r T4 C' x1 x2 x3 => hX r T4 C' ?_ (by omega) (by omega)) ((hY2.trans x2).trans (Ii_T _ _ _ _)) (by omega) (by omega) (frT_trans fc fc5 (Nat.le_refl _) (Nat.le_refl _)) fr7' (fun i i1 i2 => y1 i i1 (by omega)) y2 (fin_all pre)
        have e81 : F_38_81 T2 (ak38 e) (nI d) (nI p) t (nI 1) (sq C4 (lTm t) 7 (some (t + 1))) = some (r, T4, C') := by
          unfold F_38_81
          rw [if_pos (show nI 1 < 2 by decide)]
          exact x1
        rw [e81]
        exact kCh_s (by omega) (by omega) (by omega) (by omega)
set_option maxHeartbeats 4000000 in
theorem rd_all : ∀ e, RdP e := by
  intro e
  induction e with
  | zero => intro T S m p t d pp c C R hd he; omega
  | succ e ih =>
    intro T S m p t d pp c C R hd he hs st hu htp tb d0 hpar
    have m60 := hs.1
    have pm := hs.2.1
    by_cases ok : d < 10 ∧ p < m ∧ okW 0 10 (wW R p)
    · obtain ⟨ok1, ok2, ok3⟩ := ok
      obtain ⟨k, hk10, hk⟩ := okW_n (b := 10) (by omega) ok3
      have t60 : t < 60 := by omega
      have e36 : F_36 T 0 10 C = some (nI k, sp C lRd 3 (nI (p + 1))) := by rw [ni_ok hs ok2 ok3, hk]
      have g2 : gp (sp C lRd 3 (nI (p + 1))) lRd 2 = -1 := by simp (disch := omega) only [gp_ne, gpa_ne, gp_sp, gp_sa, upd_eq, upd_ne, gq_sp, gq_sa]; exact hs.2.2.2.2.2.2.1
      obtain ⟨T1, C2, e37, t1, t2, t3, hb, st2, fr2, c22, c23⟩ := nxTm (k := k) t60 g2 (stT_rel relC_3 st)
      have cRd : ∀ i, i ≠ 2 → i ≠ 3 → i ≠ 5 → gp C2 lRd i = gp C lRd i := fun i a b c => by rw [fr2.2.2.1 i a b c]; simp (disch := omega) only [gp_ne, gpa_ne, gp_sp, gp_sa, upd_eq, upd_ne, gq_sp, gq_sa]
      have c23' : gp C2 lRd 3 = nI (p + 1) := by rw [c23]; simp (disch := omega) only [gp_ne, gpa_ne, gp_sp, gp_sa, upd_eq, upd_ne, gq_sp, gq_sa]
      have cWo : gp C2 lWo = gp C lWo := by rw [fr2.1 lWo (by simp) (by simp only; omega)]; simp (disch := omega) only [gp_ne, gpa_ne, gp_sp, gp_sa, upd_eq, upd_ne, gq_sp, gq_sa]
      obtain ⟨h22, h16, hmo⟩ := hdR_mo (R := R) (p := p) (t := t) (d := d) (pp := pp)
      have frh : frU 0 0 R (hdR R p t d pp) := frU_tr lnk0_fr (frU_0 hdR_fr)
      have h13 : gp (hdR R p t d pp) (lMa 13) = gp R (lMa 13) := frh.2.1 (lMa 13) (by simp) (by simp)
      have h12 : gp (hdR R p t d pp) (lMa 12) = gp R (lMa 12) := frh.2.1 (lMa 12) (by simp) (by simp)
      have rs2 : RS m (p + 1) C2 (hdR R p t d pp) := by
        obtain ⟨b1, b2, b3, b4, b5, b6, b7, b8, b9, b10⟩ := hs
        unfold RS wW at *
        rw [cRd 1 (by decide) (by decide) (by decide), hmo 11 (by decide) (by decide), hmo 23 (by decide) (by decide), h22, c23', c22, cWo, h13, h12]
        exact ⟨b1, by omega, b3, b4, rfl, rfl, rfl, b8, b9, b10⟩
      have hr1 : gp (hdR R p t d pp) lMo 1 = nI T1.1 := by rw [hmo 1 (by decide) (by decide), t1]; exact tb.2.2.1
      obtain ⟨C3, R5, e40, e116, frn, rel5, q6, hcase⟩ := num_all (T := T1) (k := k) (t := t) (p := p + 1) hk10 t3 st2.1 hb.1 st2.2.2.2.2.2.2.2.1 st2.2.2.2.2.2.2.2.2 hr1 rs2
      have eO := o_head (T := T) (R5 := R5) hs ok2 hk hk10 ok1 t60 hu (fun z => ⟨(hpar z).1, (hpar z).2.1⟩) ((f116_T T T1 _ _).trans e116)
      have fr0 : frU t d (lnk0 R t d pp) (sp (sp R5 (lMa 32) d (nI t)) (lMa 33) d (nI (pts k))) := frU_tr hdR_fr (frU_tr (frU_rel rel5) (frU_tr (frU_ma (by omega)) (frU_ma (by omega))))
      have fr00 : frU 0 0 R (sp (sp R5 (lMa 32) d (nI t)) (lMa 33) d (nI (pts k))) := frU_tr lnk0_fr (frU_0 fr0)
      have fc3 : frT t C C3 := frT_trans (frT_rd (by omega)) (frT_trans fr2 (frT_N frn) (Nat.le_refl _) (Nat.le_refl _)) (Nat.le_refl _) (Nat.le_refl _)
      have st3 : stT T1 (t + 1) C3 := stT_N frn q6 st2
      have k3 : gp C3 (lTm t) 0 = nI k := by rw [frn.2.1 0 (Or.inl rfl)]; exact hb.1
      have q7 : gq C3 (lTm t) 7 = none := by rw [frn.2.2.2.2.1 7 (by decide)]; exact hb.2.2.2.2.2.1
      have q8 : gq C3 (lTm t) 8 = none := by rw [frn.2.2.2.2.1 8 (by decide)]; exact hb.2.2.2.2.2.2
      have eMo : gp (sp (sp R5 (lMa 32) d (nI t)) (lMa 33) d (nI (pts k))) lMo = gp R5 lMo := by simp (disch := omega) only [gp_ne, gpa_ne, gp_sp, gp_sa, upd_eq, upd_ne, gq_sp, gq_sa]
      have e13 : gp (sp (sp R5 (lMa 32) d (nI t)) (lMa 33) d (nI (pts k))) (lMa 13) = gp R5 (lMa 13) := by simp (disch := omega) only [gp_ne, gpa_ne, gp_sp, gp_sa, upd_eq, upd_ne, gq_sp, gq_sa]
      have e12 : gp (sp (sp R5 (lMa 32) d (nI t)) (lMa 33) d (nI (pts k))) (lMa 12) = gp R5 (lMa 12) := by simp (disch := omega) only [gp_ne, gpa_ne, gp_sp, gp_sa, upd_eq, upd_ne, gq_sp, gq_sa]
      have op6 := hdR_opn (R := R) (p := p) (t := t) (d := d) (pp := pp) (c := c) (fun z => ⟨(hpar z).2.1, (hpar z).2.2⟩) rel5 (pts k)
      have hu6 : gp (sp (sp R5 (lMa 32) d (nI t)) (lMa 33) d (nI (pts k))) lMo 16 = nI (t + 1) := by rw [eMo, rel5.2.1 16 (by decide) (by decide)]; exact h16
      generalize sp (sp R5 (lMa 32) d (nI t)) (lMa 33) d (nI (pts k)) = R6 at *
      have hX : ∀ r T2 C', (if nI (pts k) < 1 then F_38_81 T1 (ak38 e) (nI d) (nI p) t (nI (pts k)) C3 else kBd (F_33 T1 C3) (fun r21 M22 => if r21 = 0 then kBt (F_38r T1 e (nI (d + 1)) M22) (fun r25 T26 M27 => kCh T1 T26 (kGd (kLv T26 (lTm t)) (F_38_81 T26 (ak38 e) (nI d) (nI p) t (nI (pts k)) (sq M27 (lTm t) 7 r25)))) else F_38_81 T1 (ak38 e) (nI d) (nI p) t (nI (pts k)) M22)) = some (r, T2, C') → T1.1 ≤ T2.1 → T1.2 ≤ T2.2 → F_38r T (e + 1) (nI d) C = some (r, T2, C') := fun r T2 C' x y z => f38_node ok1 e36 e37 (by omega) t2 e40 t3 k3 hk10 hs.2.2.2.2.1 x y z
      rcases hcase with z | ⟨p1, z1, z2⟩
      · have dead := fs_dead z
        have z6 : FS m C3 R6 := fs_r eMo z
        refine Or.inl ⟨T1, C3, R6, t + 1, hX _ _ _ ?_ (Nat.le_refl _) (Nat.le_refl _), eO.trans (i_fail ?_), z6, st3, t1, t2, fc3, fr00⟩
        · by_cases q : nI (pts k) < 1
          · rw [if_pos q, dead81 dead]
          · rw [if_neg q]
            unfold F_33
            rw [if_neg dead, kBd_s, if_neg (by decide), dead81 dead]
        · obtain ⟨-, -, -, q, hq, -, h5⟩ := z6
          rw [h5]; exact pn_ge0 (by omega)
      · have ge := nmF_le hk10 z2
        have w13 : gp R6 (lMa 13) = gp (hdR R p t d pp) (lMa 13) := by rw [e13, rel5.1 (lMa 13) (by simp)]
        exact rd_kids ih ok1 he hk10 hX eO t1 t2 fc3 fr0 (rs_r eMo e13 e12 z1) st3 hu6 htp ge (tbO_fr t1 (tagr_refl S) fc3 fr00 tb) d0 hb (nmF_cg rfl rfl rfl rfl w13 z2) k3 (by show gp R6 (lMa 13) p = _; rw [w13, h13]; exact hk) q7 q8 op6
    · exact Or.inl (rd_bad hd hs st ok)
