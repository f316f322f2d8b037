set_option maxHeartbeats 4000000 in
theorem sp_cm {M : kM} {l l' : kLb} {k k' : Nat} {v v' : Int32} (h : l ≠ l') : sp (sp M l k v) l' k' v' = sp (sp M l' k' v') l k v := by
  have e1 : gp (sp M l k v) l' = gp M l' := gp_sp_ne (Ne.symm h)
  have e2 : gp (sp M l' k' v') l = gp M l := gp_sp_ne h
  show sa (sp M l k v) l' (upd (gp (sp M l k v) l') k' v') = sa (sp M l' k' v') l (upd (gp (sp M l' k' v') l) k v)
  rw [e1, e2]
  unfold sp sa
  congr 1
  funext x
  show (if x = l' then _ else if x = l then _ else M.1 x) = (if x = l then _ else if x = l' then _ else M.1 x)
  by_cases a : x = l'
  · rw [if_pos a, if_neg (fun z => h (z.symm.trans a)), if_pos a]
  · rw [if_neg a, if_neg a]
abbrev okR (T : kT) (S : kS) (m t p d pp : Nat) (C R1 : kM) (x : Option (Option Nat × kT × kM)) (y : Option (Unit × kM)) : Prop := ∃ T' C' R' S' n' p', (x = some (some t, T', C') ∧ y = Ii T d R' ∧ RS m p' C' R' ∧ stT T' n' C' ∧ gp R' lMo 16 = nI n' ∧ t < n' ∧ n' ≤ p' ∧ T'.1 = T.1 ∧ T.2 ≤ T'.2) ∧ (agr S S' 0 t ∧ tagr S S' ∧ dn S' t n' C' R' ∧ en S' t + 1 = n' ∧ att S' t = p ∧ p + wc S' t = p' ∧ hg S' t = 9 - d ∧ (d ≠ 0 → par S' t = pp) ∧ d < 10) ∧ frT t C C' ∧ frU t d R1 R'
set_option maxHeartbeats 4000000 in
theorem fin_ok {T : kT} {S : kS} {m k t p p1 p3 n3 d pp c sn n cc o hh s : Nat} {pk : Nat → Nat} {C2 C R : kM} {ak : kT → Int32 → kM → Option (Option Nat × kT × kM)} (h : preF T S m k t p p1 p3 n3 d pp c sn C2 C R) (hn1 : 1 ≤ n) (hn12 : n ≤ 12) (h41 : F_41 T (some t) C = some (nI n, C)) (hl : F_119 T (nI t) (nI k) R = F_119_291 T (nI t) 1 (nI n) R) (hp1 : p1 = p + owN k n) (hf : fldP T k t p n (if k = 0 then 0 else wd S (t + 1)) (if 3 ≤ k ∧ k ≤ 5 then wd S sn else 0) C R cc o hh s pk) (h0n : k = 0 → ∃ j, j < T.1 ∧ wW R (p + 1) = nI j ∧ gp C (lTb j) 0 = nI n) :
    okR T S m t p d pp C (if d = 0 then R else sp R (lMa 33) (d - 1) (nI c)) (F_38_107 T ak (nI p) t C) (Ii T (d + 1) R) := by
  have er := fin_ref h hl (fun _ => by omega) (Or.inr rfl)
  simp only [hn12, and_self, if_true] at er
  obtain ⟨⟨hd, htn, hnp, hk10, hpp⟩, ⟨hs, st, hu, tb, kid⟩, ⟨hb, nm, hk, hw0, hp1'⟩, ⟨r17, r18, d0, r32, r33, r33'⟩, k0, k1, nb, un, bi⟩ := h
  obtain ⟨⟨f1, f2, f3, f35, f6⟩, g0, g1, g2, g3, g4, g5, g6, g7, g8, g9, g10⟩ := hf
  have m60 := hs.1
  have pm := hs.2.1
  have tT : t < T.2 := by have := st.2.2.1; omega
  have kid1 : k ≠ 0 → ndC S (t + 1) C ∧ ndR S (t + 1) R ∧ nOk S n3 (t + 1) := fun z => kid (t + 1) (Nat.le_refl _) (k1 z).2.2.1
  -- the table under a selection
  have sel : k = 1 → kd S (t + 1) = 0 → gq C (lTm (t + 1)) 6 = some (sc S (t + 1)) ∧ sc S (t + 1) < T.1 ∧ gp C (lTb (sc S (t + 1))) 0 = nI (tw S (sc S (t + 1))) ∧ cc < tw S (sc S (t + 1)) ∧ tw S (sc S (t + 1)) ≤ 6 ∧ gp C (lTx (sc S (t + 1))) cc = gp R (lMa 3) (sc S (t + 1) * 6 + cc) := fun z y => by
    obtain ⟨x1, x2, x3⟩ := kid1 (by omega)
    have y1 := x1.2.2.2.2.2.2.2.2.1 y
    obtain ⟨-, -, -, y4, y5, -⟩ := x3.2.1 y
    have y6 : sc S (t + 1) < T.1 := by have := tb.2.1; omega
    obtain ⟨z1, z2, z3, z4, z5⟩ := tb.2.2.2 _ y6
    have c1 := (g1 z).2.1
    rw [if_neg (by omega), y5] at c1
    exact ⟨y1, y6, z1, c1, z4, z5 cc c1⟩
  have hfl : ∃ fl : Int32, (k ≠ 1 → fl = wW R (p + 4)) ∧ (k = 1 → fl = gp R (lMa 3) (sc S (t + 1) * 6 + cc)) := ⟨if k = 1 then gp R (lMa 3) (sc S (t + 1) * 6 + cc) else wW R (p + 4), fun z => if_neg z, fun z => if_pos z⟩
  obtain ⟨fl, fl1, fl2⟩ := hfl
  have hx : ∃ x, x = if k = 1 ∧ hh = 0 ∧ kd S (t + 1) = 0 ∧ ¬ fl = 0 then 1 else 0 := ⟨_, rfl⟩
  obtain ⟨x, hx⟩ := hx
  have c9 : ∀ i, i ≠ 9 → gp (sp C (lTm t) 9 (nI n)) (lTm t) i = gp C (lTm t) i := fun i z => by rw [gp_sp, upd_ne (by omega)]
  have c9' : ∀ l, l ≠ lTm t → gp (sp C (lTm t) 9 (nI n)) l = gp C l := fun l z => gp_sp_ne z
  have c99 : gp (sp C (lTm t) 9 (nI n)) (lTm t) 9 = nI n := by simp (disch := omega) only [gp_ne, gpa_ne, gp_sp, gp_sa, upd_eq, upd_ne, gq_sp, gq_sa]
  have ecx := cx (T := T) (k := k) (t := t) (h := hh) (c := cc) (k1 := kd S (t + 1)) (j := sc S (t + 1)) (w := tw S (sc S (t + 1))) (C := sp C (lTm t) 9 (nI n)) tT (by rw [c9 0 (by decide)]; exact hk) hk10 (by rw [c9 3 (by decide)]; exact f3) f35 (fun z => by
    obtain ⟨x1, x2, x3⟩ := kid1 (by omega)
    refine ⟨by rw [c9 1 (by decide)]; exact f1, (k1 (by omega)).1, by have := (k1 (by omega)).2.2.1; have := st.2.2.1; omega, by rw [c9' _ (by simp)]; exact x1.1, x3.1.1, fun y => ?_⟩
    obtain ⟨s1, s2, s3, s4, s5, s6⟩ := sel z y
    exact ⟨s1, s2, by rw [c9' _ (by simp)]; exact s3, s4, s5⟩)
  have hC : ∃ C', F_44 T (some t) (sp C (lTm t) 9 (nI n)) = some ((), C') ∧ gp C' = gp (sp C (lTm t) 9 (nI n)) ∧ (∀ l, l ≠ lTm t → gq C' l = gq C l) ∧ (∀ i, i ≠ 6 → gq C' (lTm t) i = gq C (lTm t) i) ∧ (k = 0 → gq C' (lTm t) 6 = some s) ∧ (k = 1 → gq C' (lTm t) 6 = if x = 1 then some (sc S (t + 1)) else none) ∧ go C' = go C ∧ (∀ j, gq C' (lTm t) 6 = some j → gq C (lTm t) 6 = some j ∨ j < T.1) := by
    by_cases q : k = 1 ∧ hh = 0 ∧ kd S (t + 1) = 0 ∧ ¬ fl = 0
    · obtain ⟨s1, s2, s3, s4, s5, s6⟩ := sel q.1 q.2.2.1
      have q' : k = 1 ∧ hh = 0 ∧ kd S (t + 1) = 0 ∧ ¬ gp (sp C (lTm t) 9 (nI n)) (lTx (sc S (t + 1))) cc = 0 := ⟨q.1, q.2.1, q.2.2.1, by rw [c9' _ (by simp), s6, ← fl2 q.1]; exact q.2.2.2⟩
      rw [if_pos q'] at ecx
      rw [if_pos q] at hx
      have g6' : gq (sq (sp C (lTm t) 9 (nI n)) (lTm t) 6 (some (sc S (t + 1)))) (lTm t) 6 = some (sc S (t + 1)) := by rw [gq_sq, va_up_self]
      refine ⟨_, ecx, rfl, fun l z => gq_sq_ne z, fun i z => by rw [gq_sq, va_up_ne _ _ z]; rfl, fun z => by omega, fun _ => by rw [if_pos hx]; exact g6', rfl, fun j z => ?_⟩
      rw [g6'] at z
      cases z
      exact Or.inr s2
    · have q' : ¬ (k = 1 ∧ hh = 0 ∧ kd S (t + 1) = 0 ∧ ¬ gp (sp C (lTm t) 9 (nI n)) (lTx (sc S (t + 1))) cc = 0) := fun z => by
        obtain ⟨s1, s2, s3, s4, s5, s6⟩ := sel z.1 z.2.2.1
        have := z.2.2.2
        rw [c9' _ (by simp), s6, ← fl2 z.1] at this
        exact q ⟨z.1, z.2.1, z.2.2.1, this⟩
      rw [if_neg q'] at ecx
      rw [if_neg q] at hx
      exact ⟨_, ecx, rfl, fun l z => rfl, fun i z => rfl, fun z => (g0 z).1, fun z => by rw [if_neg (by omega)]; exact f6 (by omega), rfl, fun j z => Or.inl z⟩
  obtain ⟨C', e44, cp, cq, cqt, cq0, cq1, cgo, cq6⟩ := hC
  have ec : F_38_107 T ak (nI p) t C = some (some t, T, C') := by
    unfold F_38_107 F_33
    rw [hs.2.2.2.2.2.2.1, if_pos rfl, kBd_s, if_pos rfl, h41, kBd_s, lv_tm tT, kGd_t, c99, if_neg (by rw [pn_ltL _ (by omega) (by omega)]; omega), if_pos (by rw [pn_leL _ (by omega) (by omega)]; exact hn12), e44, kBd_s]
  -- the picture's new row
  have hwc : ∃ wcn, p + wcn = p3 := ⟨p3 - p, by omega⟩
  obtain ⟨wcn, hwcn⟩ := hwc
  have hbn : 3 ≤ k ∧ k ≤ 5 → t + 1 ≤ en S (t + 1) := fun z => (kid1 (by omega)).2.2.1.2.2.2.1
  have kid2 : 3 ≤ k ∧ k ≤ 5 → ndC S sn C ∧ ndR S sn R ∧ nOk S n3 sn := fun z => kid sn (by have := hbn z; have := (bi z).2.2.1; omega) (bi z).2.2.2.1
  have ok := new_ok (S := S) (R := R) (t := t) (k := k) (e := n3 - 1) (n := n) (c := cc) (o := o) (h := hh) (s := s) (wcn := wcn) (p := p) (pp := pp) (sn := sn) (x := x) (d := d) (pk := pk) (v := gp C (lTm t) 4) (fl := fl) (N := n3) hk10 hn1 hn12 (by omega) (by omega) (by omega) hw0
    (fun z => by
      obtain ⟨a1, a2, a3⟩ := g0 z
      obtain ⟨-, -, b3, b4⟩ := k0 z
      obtain ⟨j, j1, j2, j3⟩ := h0n z
      have js : j = s := by
        have := j2.symm.trans a3
        have := tb.1
        rwa [pn_inj (by omega) (by omega)] at *
      subst js
      have e1 := (tb.2.2.2 j j1).1.symm.trans j3
      have := (tb.2.2.2 j j1).2.2.2.1
      rw [pn_inj (by omega) (by omega)] at e1
      have e2 : owN k n = 2 := by unfold owN; rw [if_pos z]
      exact ⟨by omega, a3, by rw [tb.2.1]; exact j1, e1.symm, by omega⟩)
    (fun z => by
      obtain ⟨a1, a2, a3, a4, a5, a6⟩ := k1 z
      have x3 := (kid1 z).2.2.1
      exact ⟨by omega, a3, a5, a6, by have := x3.2.2.2.2.1; omega, x3.2.2.2.1⟩)
    (fun z y => by obtain ⟨a1, a2⟩ := un z y; exact ⟨by omega, by omega⟩)
    (fun z => by
      obtain ⟨a1, a2, a3, a4, a5, a6, a7, a8⟩ := bi z
      exact ⟨a3, a4, a5, a6, by omega, (kid2 z).2.2.1.2.2.2.1, by omega⟩)
    (by
      have z1 : 1 ≤ owN k n := by
        unfold owN; split <;> (try split) <;> (try split) <;> (try split) <;> (try split) <;> (try split) <;> (try split) <;> omega
      by_cases z : k = 0
      · have e2 : owN k n = 2 := by unfold owN; rw [if_pos z]
        obtain ⟨-, -, b3, b4⟩ := k0 z
        omega
      · have w1 := (kid1 z).2.2.1.2.2.2.2.2.2.2.2.2.1
        by_cases y : 3 ≤ k ∧ k ≤ 5
        · have := (bi y).2.2.2.2.2.2.2; omega
        · have := (un z y).2; omega)
    (fun z => by have := g1 z; rw [if_neg (by omega)] at this; exact this)
    (fun z => by
      obtain ⟨a1, a2⟩ := g2 z
      rw [if_neg (by omega)] at a2
      exact ⟨a1, fun i hi => (a2 i hi).1⟩)
    (fun z => by have := g3 z; rw [if_neg (by omega), if_pos (by omega)] at this; exact this)
    (fun z => by have := g4 z; rw [if_neg (by omega), if_pos (by omega)] at this; exact this)
    (fun z => by have := g5 z; rw [if_neg (by omega), if_pos (by omega)] at this; exact this)
    (fun z => by have := g6 z; rw [if_neg (by omega)] at this; exact this)
    (fun z => by have := g7 z; rw [if_neg (by omega)] at this; exact this)
    (fun z => by have := g8 z; rw [if_neg (by omega)] at this; exact this)
    g9
    (fun z => by have := g10 z; rw [if_neg (by omega)] at this; exact this)
    hx fl1
  have a0 : kd (nwSt S R t k (n3 - 1) n cc o hh s wcn p pp sn x d pk (gp C (lTm t) 4) fl) t = k := nw_t 0 (by decide)
  have a1 : en (nwSt S R t k (n3 - 1) n cc o hh s wcn p pp sn x d pk (gp C (lTm t) 4) fl) t = n3 - 1 := nw_t 1 (by decide)
  have a2 : wd (nwSt S R t k (n3 - 1) n cc o hh s wcn p pp sn x d pk (gp C (lTm t) 4) fl) t = n := nw_t 2 (by decide)
  have a3 : ch (nwSt S R t k (n3 - 1) n cc o hh s wcn p pp sn x d pk (gp C (lTm t) 4) fl) t = cc := nw_t 3 (by decide)
  have a4 : ot (nwSt S R t k (n3 - 1) n cc o hh s wcn p pp sn x d pk (gp C (lTm t) 4) fl) t = o := nw_t 4 (by decide)
  have a5 : hw (nwSt S R t k (n3 - 1) n cc o hh s wcn p pp sn x d pk (gp C (lTm t) 4) fl) t = hh := nw_t 5 (by decide)
  have a6 : sc (nwSt S R t k (n3 - 1) n cc o hh s wcn p pp sn x d pk (gp C (lTm t) 4) fl) t = s := nw_t 6 (by decide)
  have a7 : wc (nwSt S R t k (n3 - 1) n cc o hh s wcn p pp sn x d pk (gp C (lTm t) 4) fl) t = wcn := nw_t 7 (by decide)
  have a8 : att (nwSt S R t k (n3 - 1) n cc o hh s wcn p pp sn x d pk (gp C (lTm t) 4) fl) t = p := nw_t 8 (by decide)
  have a9 : par (nwSt S R t k (n3 - 1) n cc o hh s wcn p pp sn x d pk (gp C (lTm t) 4) fl) t = pp := nw_t 9 (by decide)
  have a10 : se (nwSt S R t k (n3 - 1) n cc o hh s wcn p pp sn x d pk (gp C (lTm t) 4) fl) t = sn := nw_t 10 (by decide)
  have a13 : ix (nwSt S R t k (n3 - 1) n cc o hh s wcn p pp sn x d pk (gp C (lTm t) 4) fl) t = x := nw_t 13 (by decide)
  have a15 : ow (nwSt S R t k (n3 - 1) n cc o hh s wcn p pp sn x d pk (gp C (lTm t) 4) fl) t = owN k n := nw_t 15 (by decide)
  have a16 : hg (nwSt S R t k (n3 - 1) n cc o hh s wcn p pp sn x d pk (gp C (lTm t) 4) fl) t = 9 - d := nw_t 16 (by decide)
  have a20 : ∀ i, (nwSt S R t k (n3 - 1) n cc o hh s wcn p pp sn x d pk (gp C (lTm t) 4) fl).1 (20 + i) t = pk i := fun i => by
    rw [nw_t _ (by omega)]
    unfold rowF
    simp only [show ¬ 20 + i = 0 by omega, show ¬ 20 + i = 1 by omega, show ¬ 20 + i = 2 by omega, show ¬ 20 + i = 3 by omega, show ¬ 20 + i = 4 by omega, show ¬ 20 + i = 5 by omega, show ¬ 20 + i = 6 by omega, show ¬ 20 + i = 7 by omega, show ¬ 20 + i = 8 by omega, show ¬ 20 + i = 9 by omega, show ¬ 20 + i = 10 by omega, show ¬ 20 + i = 13 by omega, show ¬ 20 + i = 15 by omega, show ¬ 20 + i = 16 by omega, if_false, show 20 + i - 20 = i by omega]
  have av : vl (nwSt S R t k (n3 - 1) n cc o hh s wcn p pp sn x d pk (gp C (lTm t) 4) fl) t = gp C (lTm t) 4 := nw_g 0 0 (by decide)
  have d4 : td (nwSt S R t k (n3 - 1) n cc o hh s wcn p pp sn x d pk (gp C (lTm t) 4) fl) t 4 = fl := nw_g 2 4 (by decide)
  have ao : ∀ i, (nwSt S R t k (n3 - 1) n cc o hh s wcn p pp sn x d pk (gp C (lTm t) 4) fl).1 i (t + 1) = S.1 i (t + 1) := fun i => nw_o i (by omega)
  have atd : ∀ i, i ≠ 4 ∨ k ≠ 1 → td (nwSt S R t k (n3 - 1) n cc o hh s wcn p pp sn x d pk (gp C (lTm t) 4) fl) t i = wW R (p + i) := fun i z => nw_td i (by rcases z with z | z; exact Or.inl z; exact Or.inr (fl1 z))
  have ag0 : agr S (nwSt S R t k (n3 - 1) n cc o hh s wcn p pp sn x d pk (gp C (lTm t) 4) fl) 0 t := stSN_agr _ _ _ _ (Or.inl (Nat.le_refl _))
  have ag1 : agr S (nwSt S R t k (n3 - 1) n cc o hh s wcn p pp sn x d pk (gp C (lTm t) 4) fl) (t + 1) n3 := stSN_agr _ _ _ _ (Or.inr (by omega))
  have ta : tagr S (nwSt S R t k (n3 - 1) n cc o hh s wcn p pp sn x d pk (gp C (lTm t) 4) fl) := stSN_tagr _ _ _ _
  generalize nwSt S R t k (n3 - 1) n cc o hh s wcn p pp sn x d pk (gp C (lTm t) 4) fl = S' at *
  have ctm : ∀ i, i ≠ 9 → gp C' (lTm t) i = gp C (lTm t) i := fun i z => by rw [cp]; exact c9 i z
  have cpo : ∀ l, l ≠ lTm t → gp C' l = gp C l := fun l z => by rw [cp]; exact c9' l z
  have frc : frT t C C' := by
    refine ⟨fun l x y => cpo l (fun z => y (tmI z)), fun l x y => cq l (fun z => y (tmQ (Nat.le_refl _) z)), fun k x y z => by rw [cpo lRd (by simp)], cgo⟩
  have stc : stT T n3 C' := stT_cg (t := t) (by rw [cpo lRd (by simp)]) (by rw [cpo lTs (by simp)]) cq cq6 (fun j z => Or.inl (by rw [cqt 7 (by decide)] at z; exact z)) (fun j z => Or.inl (by rw [cqt 8 (by decide)] at z; exact z)) st
  have ndc : ndC S' t C' := by
    unfold ndC
    have e0 : bin S' t ↔ 3 ≤ k ∧ k ≤ 5 := by show 3 ≤ kd S' t ∧ kd S' t ≤ 5 ↔ _; rw [a0]
    have e6 : sc S' (t + 1) = sc S (t + 1) := ao 6
    rw [e0, a0, a3, a4, a5, av, a2, a10, a6, a13, e6, ctm 0 (by decide), ctm 1 (by decide), ctm 2 (by decide), ctm 3 (by decide), ctm 4 (by decide), cqt 7 (by decide), cqt 8 (by decide)]
    refine ⟨hk, f1, f2, f3, rfl, by rw [cp]; exact c99, fun z => (k1 z).1, fun z => (bi z).1, cq0, cq1, fun z => (k0 z).1, fun z => (nb z).1, fun z i hi => ?_⟩
    show gp C' (lPk t) i = nI (S'.1 (20 + i) t)
    rw [a20, cpo (lPk t) (by simp)]
    exact ((g2 z).2 i hi).2
  have ndr : ∀ R', (∀ j, j = 17 ∨ j = 18 ∨ j = 19 ∨ j = 20 → gp R' (lMa j) t = gp R (lMa j) t) → gp R' (lMa 13) = gp R (lMa 13) → gp R' (lMa 3) = gp R (lMa 3) → gp R' (lMa 21) t = nI n → gp R' (lMa 34) t = nI (n3 - 1) → ndR S' t R' := fun R' y1 y2 y3 y4 y5 => by
    unfold ndR
    have e0 : bin S' t ↔ 3 ≤ k ∧ k ≤ 5 := by show 3 ≤ kd S' t ∧ kd S' t ≤ 5 ↔ _; rw [a0]
    have e6 : sc S' (t + 1) = sc S (t + 1) := ao 6
    have e7 : kd S' (t + 1) = kd S (t + 1) := ao 0
    rw [e0, a0, a8, a2, a1, a9, a10, a15, a3, e6, e7, d4, y1 17 (by omega), y1 18 (by omega), y1 19 (by omega), y1 20 (by omega), y2, y3, y4, y5]
    refine ⟨r17, rfl, rfl, fun z => r18 (fun y => z (d0 y)), fun z => (k1 z).2.1, fun z => (bi z).2.1, fun i hi => ?_, fun z y => (fl2 z).symm⟩
    rw [atd i]
    by_cases z : k = 1
    · left; unfold owN at hi; rw [if_neg (by omega), if_pos z] at hi; omega
    · exact Or.inr z
  have dnr : ∀ R', (∀ j, j = 17 ∨ j = 18 ∨ j = 19 ∨ j = 20 → gp R' (lMa j) = gp R (lMa j)) → gp R' (lMa 13) = gp R (lMa 13) → gp R' (lMa 3) = gp R (lMa 3) → gp R' (lMa 21) = upd (gp R (lMa 21)) t (nI n) → gp R' (lMa 34) = upd (gp R (lMa 34)) t (nI (n3 - 1)) → dn S' t n3 C' R' := fun R' y1 y2 y3 y4 y5 => by
    intro i i1 i2
    by_cases z : i = t
    · subst z
      exact ⟨ndc, ndr R' (fun j hj => by rw [y1 j hj]) y2 y3 (by rw [y4, upd_eq]) (by rw [y5, upd_eq]), ok⟩
    · obtain ⟨b1, b2, b3⟩ := kid i (by omega) i2
      refine ⟨ndC_agr b3 ag1 (by omega) i2 (ndC_cg (cpo _ (by simpa using z)) (cpo _ (by simp)) (cq _ (by simpa using z)) b1), ndR_agr b3 ag1 (by omega) i2 (ndR_cg (fun j hj => ?_) y2 y3 b2), nOk_agr b3 ag1 ta (by omega) i2⟩
      by_cases j1 : j = 21
      · rw [j1, y4, upd_ne z]
      · by_cases j2 : j = 34
        · rw [j2, y5, upd_ne z]
        · rw [y1 j (by omega)]
  by_cases q : d = 0
  · rw [if_pos q] at er ⊢
    refine ⟨T, C', _, S', n3, p3, ⟨ec, er, ?_, stc, ?_, htn, hnp, rfl, Nat.le_refl _⟩, ⟨ag0, ta, dnr _ (fun j hj => ?_) ?_ ?_ ?_ ?_, by omega, a8, by omega, a16, fun _ => a9, hd⟩, frc, frU_trans (frU_ma (by omega)) (frU_ma (by omega)) (Nat.le_refl _) (Nat.le_refl _) (Nat.le_refl _) (Nat.le_refl _)⟩
    · have := RS_c (cpo lRd (by simp)) (cpo lWo (by simp)) hs
      unfold RS at *
      simp (disch := omega) only [gp_ne, gpa_ne, gp_sp, gp_sa, upd_eq, upd_ne, gq_sp, gq_sa]
      exact this
    · simp (disch := omega) only [gp_ne, gpa_ne, gp_sp, gp_sa, upd_eq, upd_ne, gq_sp, gq_sa]; exact hu
    · simp (disch := omega) only [gp_ne, gpa_ne, gp_sp, gp_sa, upd_eq, upd_ne, gq_sp, gq_sa]
    · simp (disch := omega) only [gp_ne, gpa_ne, gp_sp, gp_sa, upd_eq, upd_ne, gq_sp, gq_sa]
    · simp (disch := omega) only [gp_ne, gpa_ne, gp_sp, gp_sa, upd_eq, upd_ne, gq_sp, gq_sa]
    · simp (disch := omega) only [gp_ne, gpa_ne, gp_sp, gp_sa, upd_eq, upd_ne, gq_sp, gq_sa]
    · simp (disch := omega) only [gp_ne, gpa_ne, gp_sp, gp_sa, upd_eq, upd_ne, gq_sp, gq_sa]
  · rw [if_neg q] at er ⊢
    refine ⟨T, C', _, S', n3, p3, ⟨ec, er, ?_, stc, ?_, htn, hnp, rfl, Nat.le_refl _⟩, ⟨ag0, ta, dnr _ (fun j hj => ?_) ?_ ?_ ?_ ?_, by omega, a8, by omega, a16, fun _ => a9, hd⟩, frc, ?_⟩
    · have := RS_c (cpo lRd (by simp)) (cpo lWo (by simp)) hs
      unfold RS at *
      simp (disch := omega) only [gp_ne, gpa_ne, gp_sp, gp_sa, upd_eq, upd_ne, gq_sp, gq_sa]
      exact this
    · simp (disch := omega) only [gp_ne, gpa_ne, gp_sp, gp_sa, upd_eq, upd_ne, gq_sp, gq_sa]; exact hu
    · simp (disch := omega) only [gp_ne, gpa_ne, gp_sp, gp_sa, upd_eq, upd_ne, gq_sp, gq_sa]
    · simp (disch := omega) only [gp_ne, gpa_ne, gp_sp, gp_sa, upd_eq, upd_ne, gq_sp, gq_sa]
    · simp (disch := omega) only [gp_ne, gpa_ne, gp_sp, gp_sa, upd_eq, upd_ne, gq_sp, gq_sa]
    · simp (disch := omega) only [gp_ne, gpa_ne, gp_sp, gp_sa, upd_eq, upd_ne, gq_sp, gq_sa]
    · simp (disch := omega) only [gp_ne, gpa_ne, gp_sp, gp_sa, upd_eq, upd_ne, gq_sp, gq_sa]
    · rw [sp_cm (l := lMa 34) (l' := lMa 33) (by simp), sp_cm (l := lMa 21) (l' := lMa 33) (by simp)]
      exact frU_trans (frU_ma (by omega)) (frU_ma (by omega)) (Nat.le_refl _) (Nat.le_refl _) (Nat.le_refl _) (Nat.le_refl _)
