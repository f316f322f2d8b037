set_option maxHeartbeats 4000000 in
theorem sa_comm {M : kM} {l l' : kLb} {f g : Nat → Int32} (h : l ≠ l') : sa (sa M l f) l' g = sa (sa M l' g) l f := by
  unfold sa
  refine Prod.ext (funext fun x => ?_) rfl
  by_cases h1 : x = l'
  · have h2 : ¬ x = l := fun z => h (z.symm.trans h1)
    simp only [h1, if_true]
    rw [if_neg (fun z => h z.symm)]
  · simp only [h1, if_false]
set_option maxHeartbeats 4000000 in
theorem ak_mp {R : kM} {j k x : Nat} {v : Int32} : ak (sp R (lMa j) k v) x = sp (ak R x) (lMa j) k v := by
  rw [ak_eq, ak_eq]
  unfold sp
  rw [sa_comm (by simp)]
  rfl
set_option maxHeartbeats 4000000 in
theorem ask_ix {T : kT} {S : kS} {n E e t d : Nat} {fI : Int32} (hS : sOk S n) (ht : t < n) (hd : d < 10) (h0 : ix S t = 1) : AskOk T S n fI (E + 1) (e + 1) t d := by
  intro f C R hC hR hL hF
  have h1 := hS.1
  have hT := hC.1
  have hn := nk hS ht
  have hx1 := hn.2.2.2.2.2.2.2.2.2.2.2.2.2.2.2
  rw [h0] at hx1
  have hk : kd S t = 1 ∧ hw S t = 0 ∧ kd S (t + 1) = 0 ∧ ¬td S t 4 = 0 := by
    by_cases q : kd S t = 1 ∧ hw S t = 0 ∧ kd S (t + 1) = 0 ∧ ¬td S t 4 = 0
    · exact q
    · rw [if_neg q] at hx1; cases hx1
  have hk1 := hk.1
  have hs := hn.2.2.2.2.2.1 hk.1
  have hb := hn.2.2.1 (by omega)
  have hc := (nk hS hb.2.1).2.1 hk.2.2.1
  have h2 := hS.2.2.1 _ hc.2.2.2.1
  have hR' : sR S n (ak R t) := sR_fr (fr_ak (t := 0) (e := 0)) hR
  have hL0 := hL
  rw [lv] at hL
  have hnd := hL.1
  obtain ⟨p, p', p0, p1, p2, p3, p4⟩ := hnd.2.1 h0
  have c3 := hC.2.2.1 t ht
  have fl' := fst_le (S := S) (j := sc S (t + 1)) (c := ch S t) (v := vl S t) (tr S (sc S (t + 1)) - p') p'
  have fy := fst_yes (S := S) (j := sc S (t + 1)) (c := ch S t) (v := vl S t) (tr S (sc S (t + 1)) - p') p'
  have fn := fst_no (S := S) (j := sc S (t + 1)) (c := ch S t) (v := vl S t) (tr S (sc S (t + 1)) - p') p'
  have fsk := fst_skip (S := S) (j := sc S (t + 1)) (c := ch S t) (v := vl S t) (p' - p) (tr S (sc S (t + 1)) - p') p (fun r a b => p4 r a (by omega))
  rw [show p' - p + (tr S (sc S (t + 1)) - p') = tr S (sc S (t + 1)) - p by omega, show p + (p' - p) = p' by omega] at fsk
  have rs := ra_ix (T := T) (t := t) (p := p') (M := ak R t) hS hR' ht h0 p3 p1
  have nx := cl_next (T := T) (j := sc S (t + 1)) (c := ch S t) (v := vl S t) hS hC hc.2.2.2.1 (by omega) (tr S (sc S (t + 1)) - p) p (by omega)
  rw [fsk] at nx
  generalize fst S (sc S (t + 1)) (ch S t) (vl S t) (tr S (sc S (t + 1)) - p') p' = k at *
  have e1 : F_49r T (E + 1) (some t) (nI d) C = F_52 T (some t) (some (sc S (t + 1))) (nI k) C := by
    rw [F_49r]
    unfold F_49 F_51 F_77
    have hT1 := hC.2.1
    rw [kOpt_s, c3.1, hk.1, if_pos (by simp (disch := omega) only [pn_mulL, pn_addL, pn_addR, pn_ltL, pn_ltR, pn_leL, pn_leR, pn_eqL, pn_eqR, pn_subL, pn_z, pn_add, pn_mul, pn_nat, pn_inj, pn_lt, pn_le, pn_neg, kGx_nI, kGx_L]; omega), c3.2.2.2.2.2.2.2.2.2.1 hk.1, h0]
    simp (disch := omega) only [pn_mulL, pn_addL, pn_addR, pn_ltL, pn_ltR, pn_leL, pn_leR, pn_eqL, pn_eqR, pn_subL, pn_z, pn_add, pn_mul, pn_nat, pn_inj, pn_lt, pn_le, pn_neg, kGx_nI, kGx_L, kGd_t, kBd_s, kOpt_s, kOpt_n, kLf_s, kAg_l, kAg_r, kAg_f, if_true, if_false, ite_true, ite_false, eq_self_iff_true, ↓reduceIte, Nat.reduceEqDiff, Nat.reduceLeDiff, Nat.reduceLT, Nat.reduceAdd, Nat.reduceMul, Nat.reduceSub, Int32.reduceLT, Int32.reduceLE, Nat.add_zero, Nat.zero_add, Nat.succ_ne_self, Nat.not_lt_zero, Nat.one_ne_zero, Nat.zero_ne_one, i01, i02, i03, i04, i10, i12, i13, i14, i20, i21, i23, i24, i30, i31, i32, i34, i40, i41, i42, i43, not_true_eq_false, not_false_eq_true, lv_tm, lv_tb, p2, c3.2.1, c3.2.2.2.2.1, nx]
    rw [c3.2.2.2.2.2.2.2.2.2.1 hk.1, h0]
    simp (disch := omega) only [kGd_t, kBd_s, kOpt_s, kOpt_n, kLf_s, kAg_l, kAg_r, kAg_f, if_true, if_false, ite_true, ite_false, eq_self_iff_true, ↓reduceIte, Nat.reduceEqDiff, Nat.reduceLeDiff, Nat.reduceLT, Nat.reduceAdd, Nat.reduceMul, Nat.reduceSub, Int32.reduceLT, Int32.reduceLE, Nat.add_zero, Nat.zero_add, Nat.succ_ne_self, Nat.not_lt_zero, Nat.one_ne_zero, Nat.zero_ne_one, i01, i02, i03, i04, i10, i12, i13, i14, i20, i21, i23, i24, i30, i31, i32, i34, i40, i41, i42, i43, not_true_eq_false, not_false_eq_true, lv_tb, p2, c3.2.1, c3.2.2.2.2.1, nx]
    rw [kBd_id, kBd_id]
  have tk := cl_take (T := T) (t := t) (j := sc S (t + 1)) (k := k) hS hC ht hc.2.2.2.1 (by omega) hF.1 hF.2.2
  have l25 : gp (ak R t) lMo 25 = gp R lMo 25 := rfl
  rw [l25, hF.2.1] at rs
  have nd' : ∀ {C1 R1 : kM} {a b : Nat}, a ≤ b → b ≤ tr S (sc S (t + 1)) → gp C1 (lTm t) 12 = nI a → gp R1 (lMa 38) t = nI b → (∀ r, a ≤ r → r < b → ce S (sc S (t + 1)) r (ch S t) ≠ vl S t) → gp R1 (lMa 39) t = gp R (lMa 39) t → lv S C1 R1 (e + 1) t := by
    intro C1 R1 a b z1 z2 z3 z4 z5 z6
    rw [lv]
    refine ⟨⟨fun z => absurd z (by omega), fun _ => ⟨a, b, z1, z2, z3, z4, z5⟩, fun z => absurd z (by omega), fun z => absurd z (by omega), fun z => absurd z (by omega), fun z => absurd z (by omega), ?_, fun z => absurd z (by omega), fun z => absurd z (by omega)⟩, fun z => absurd z (by omega), fun z => absurd z (by omega), fun z => absurd z (by omega), fun z => absurd z (by omega)⟩
    rw [z6]; exact hnd.2.2.2.2.2.2.1
  have no_k : ∀ r, p ≤ r → r < k → ce S (sc S (t + 1)) r (ch S t) ≠ vl S t := by
    intro r a b
    by_cases q : r < p'
    · exact p4 r a q
    · exact fn r (by omega) b
  have fs : frR t (en S t) R (sp (ak R t) (lMa 38) t (nI k)) := frR_trans (t1 := t) (e1 := t) (t2 := t) (e2 := t) fr_ak (frR_mp (by omega) (by omega) (by omega)) (by omega) (by omega) (by have := hn.1; omega) (by have := hn.1; omega)
  rw [e1, tk]
  by_cases q : k < tr S (sc S (t + 1))
  · rw [if_pos q]
    rw [if_neg (show ¬ k = tr S (sc S (t + 1)) by omega)] at rs
    by_cases q2 : f = 0
    · subst q2
      rw [if_pos rfl]
      rw [if_pos (show nI 0 = 0 from rfl)] at rs
      have lp := lp_ak (f := fI) rs
      rw [if_pos rfl, ← ak_mp] at lp
      refine ⟨2, C, sp R (lMa 38) t (nI k), 0, rfl, frC_refl _ _ _, hC, ?_, by omega, hF, rfl, Or.inr (Or.inr (Or.inl ⟨rfl, t, lp, Or.inl rfl, ?_⟩))⟩
      · have := hn.1
        exact frR_mp (by omega) (by omega) (by omega)
      · exact nd' (a := p) (b := k) (by omega) (by omega) p2 (by simp (disch := omega) only [gp_ne, gpa_ne, gp_sp, gp_sa, upd_eq, upd_ne, gq_sp, gq_sa]) no_k (by simp (disch := omega) only [gp_ne, gpa_ne, gp_sp, gp_sa, upd_eq, upd_ne, gq_sp, gq_sa])
    · rw [if_neg q2]
      rw [if_neg (by rw [show (0 : Int32) = nI 0 from rfl, pn_inj (by have := hF.2.2; omega) (by omega)]; exact q2)] at rs
      have lp := lp_ak (f := fI) rs
      have hf5 := hF.2.2
      have he := hn.1.2.2.2.1
      refine ⟨1, _, sp (sa (sp (sp (ak R t) (lMa 38) t (nI k)) lMo 25 (gp (sp (ak R t) (lMa 38) t (nI k)) lMo 25 - 1)) (lMa 28) (fl (gp (sp (ak R t) (lMa 38) t (nI k)) (lMa 28)) (t * 12) (tw S (sc S (t + 1))) (fun c => gp (sp (ak R t) (lMa 38) t (nI k)) (lMa 5) ((sc S (t + 1) * 40 + k) * 6 + c)))) (lMa 38) t (nI (k + 1)), f - 1, rfl, ?_, ?_, ?_, by omega, ⟨?_, ?_, by omega⟩, ?_, Or.inl ⟨rfl, ?_, ?_, ?_, ?_⟩⟩
      · unfold tkM
        exact frC_trans (t1 := t) (e1 := t) (t2 := t) (e2 := t) (frC_trans (t := t) (e := t) (t1 := t) (e1 := t) (t2 := t) (e2 := t) (frC_trans (t := t) (e := t) (t1 := t) (e1 := t) (t2 := t) (e2 := t) (frC_sp (by omega)) (frC_sp (by omega)) (by omega) (by omega) (by omega) (by omega)) (frC_sa (by omega)) (by omega) (by omega) (by omega) (by omega)) (frC_sp (by omega)) (by omega) (by omega) (by omega) (by omega)
      · exact sC_tm (by omega) (sC_sa (by omega) (sC_sp (by omega) (sC_sp (by omega) hC)))
      · refine frR_trans (t1 := t) (e1 := en S t) (t2 := t) (e2 := t) ?_ (frR_mp (by omega) (by omega) (by omega)) (by omega) (by omega) (by omega) (by omega)
        refine frR_trans (t1 := t) (e1 := en S t) (t2 := t) (e2 := t) ?_ (frR_mr (by omega) (fun i hi => fl_out (by omega))) (by omega) (by omega) (by omega) (by omega)
        exact frR_trans (t1 := t) (e1 := en S t) (t2 := t) (e2 := t) fs (frR_mo (by omega)) (by omega) (by omega) (by omega) (by omega)
      · unfold tkM; simp (disch := omega) only [gp_ne, gpa_ne, gp_sp, gp_sa, upd_eq, upd_ne, gq_sp, gq_sa]
      · simp (disch := omega) only [gp_ne, gpa_ne, gp_sp, gp_sa, upd_eq, upd_ne, gq_sp, gq_sa]; rw [l25, hF.2.1, pn_subL _ (by omega)]
      · unfold tkM; simp (disch := omega) only [gp_ne, gpa_ne, gp_sp, gp_sa, upd_eq, upd_ne, gq_sp, gq_sa]
        rw [show nI f = nI (f - 1) + 1 by rw [pn_addL]; congr 1; omega, Int32.add_assoc, Int32.add_comm 1]
      · rw [lp, if_neg (by decide)]; rfl
      · refine nd' (a := k + 1) (b := k + 1) (by omega) (by omega) ?_ ?_ (fun r a b => by omega) ?_
        · unfold tkM; simp (disch := omega) only [gp_ne, gpa_ne, gp_sp, gp_sa, upd_eq, upd_ne, gq_sp, gq_sa]
        · simp (disch := omega) only [gp_ne, gpa_ne, gp_sp, gp_sa, upd_eq, upd_ne, gq_sp, gq_sa]
        · simp (disch := omega) only [gp_ne, gpa_ne, gp_sp, gp_sa, upd_eq, upd_ne, gq_sp, gq_sa]; rfl
      · intro c hc'
        have cc := (hC.2.2.2 _ hc.2.2.2.1).2.2 k c q (by omega)
        have rr := (hR.2 _ hc.2.2.2.1).2.2 k c q (by omega)
        unfold tkM
        simp (disch := omega) only [gp_ne, gpa_ne, gp_sp, gp_sa, upd_eq, upd_ne, gq_sp, gq_sa]
        have z1 := fl_in (g := gp C (lRw t)) (d := 0) (w := tw S (sc S (t + 1))) (j := c) (src := fun c => gp C (lTc (sc S (t + 1))) (k * tw S (sc S (t + 1)) + c)) (by omega)
        rw [Nat.zero_add] at z1
        rw [z1, fl_in (by omega)]
        show gp C (lTc (sc S (t + 1))) (k * tw S (sc S (t + 1)) + c) = gp R (lMa 5) ((sc S (t + 1) * 40 + k) * 6 + c)
        rw [cc, rr]
      · rw [pA, pA, be, if_pos (Or.inr h0), if_pos (Or.inr h0), if_pos (Or.inr h0)]; omega
  · rw [if_neg q]
    rw [if_pos (show k = tr S (sc S (t + 1)) by omega)] at rs
    have lp := lp_ak (f := fI) rs
    rw [if_neg (by decide)] at lp
    refine ⟨0, C, sp (ak R t) (lMa 38) t (nI k), f, rfl, frC_refl _ _ _, hC, fs, by omega, hF, rfl, Or.inr (Or.inl ⟨rfl, lp⟩)⟩
/-! a loop over the first part's rows -/
def own (t : Nat) (C C' R R' : kM) : Prop := frC t t C C' ∧ frR t t R R' ∧ gp C' lRu = gp C lRu ∧ gp R' lMo 25 = gp R lMo 25
set_option maxHeartbeats 4000000 in
theorem loopG {T : kT} {S : kS} {n E e t d : Nat} {fI : Int32} (hS : sOk S n) (ht : t < n) (h0 : kd S t ≠ 0)
    (ih : AskOk T S n fI E e (t + 1) (d + 1)) (G : Nat → kM → Option (Int32 × kM)) (J : kM → kM → Prop) (mu : kM → Nat) (W : Prop)
    (hJ : ∀ C R C' R', frC (t + 1) (en S (t + 1)) C C' → frR (t + 1) (en S (t + 1)) R R' → J C R → J C' R' ∧ mu R' = mu R)
    (hG : ∀ q C C1, q < 1000000 → sC T S n C → sC T S n C1 → ∀ r, F_49r T E (some (t + 1)) (nI (d + 1)) C = some (r, C1) →
      (r ≠ 1 → G q C = some (r, C1)) ∧
      (r = 1 → ∀ R1, sR S n R1 → J C1 R1 → (∀ c, c < wd S (t + 1) → gp C1 (lRw (t + 1)) c = gp R1 (lMa 28) ((t + 1) * 12 + c)) →
        (∃ C2 R2, G q C = G (q + 1) C2 ∧ Lp T fI (tl R1 (t + 1) 1) = Lp T fI (ak R2 (t + 1)) ∧ own t C1 C2 R1 R2 ∧ sC T S n C2 ∧ J C2 R2 ∧ mu R2 ≤ mu R1 + 1) ∨
        (∃ C2 R2, W ∧ G q C = some (1, C2) ∧ Lp T fI (tl R1 (t + 1) 1) = Lp T fI (tl R2 t 1) ∧ own t C1 C2 R1 R2 ∧ sC T S n C2 ∧ J C2 R2 ∧ ∀ c, c < wd S t → gp C2 (lRw t) c = gp R2 (lMa 28) (t * 12 + c)) ∨
        (∃ C2 R2, G q C = some (3, C2) ∧ Lp T fI (tl R1 (t + 1) 1) = Lq T fI 3 R2 ∧ own t C1 C2 R1 R2 ∧ sC T S n C2))) :
    ∀ P q f C R, pA S R e (t + 1) + be S e (t + 1) * f ≤ P → q + P < 1000000 → sC T S n C → sR S n R → lv S C R e (t + 1) → J C R → fu C R f →
      ∃ a C' R' f', G q C = some (nI a, C') ∧ frC t (en S t) C C' ∧ sC T S n C' ∧ frR t (en S t) R R' ∧ f' ≤ f ∧ fu C' R' f' ∧ gp C' lRu 1 + nI f' = gp C lRu 1 + nI f ∧
        ((a = 1 ∧ W ∧ Lp T fI (ak R (t + 1)) = Lp T fI (tl R' t 1) ∧ lv S C' R' e (t + 1) ∧ J C' R' ∧ (∀ c, c < wd S t → gp C' (lRw t) c = gp R' (lMa 28) (t * 12 + c)) ∧ pA S R' e (t + 1) + be S e (t + 1) * f' + 1 ≤ pA S R e (t + 1) + be S e (t + 1) * f) ∨
         (a = 0 ∧ Lp T fI (ak R (t + 1)) = Lp T fI (tl R' (t + 1) 0) ∧ J C' R' ∧ mu R' + be S e (t + 1) * f' ≤ mu R + pA S R e (t + 1) + be S e (t + 1) * f) ∨
         (a = 2 ∧ ∃ s, Lp T fI (ak R (t + 1)) = Lq T fI 2 (ak R' s) ∧ susp S R' e (t + 1) s ∧ lv S C' R' e (t + 1) ∧ J C' R') ∨
         (a = 3 ∧ Lp T fI (ak R (t + 1)) = Lq T fI 3 R')) := by
  have hn := nk hS ht
  have b1 := hn.2.2.1 h0
  have he := hn.1.2.2.2.1
  intro P
  induction P using Nat.strongRecOn with
  | ind P ihP =>
  intro q f C R hP hq hC hR hL hJJ hF
  obtain ⟨a, C1, R1, f1, e1, fc, sc1, fr, ff, fu1, tk, post⟩ := ih f C R hC hR hL hF
  obtain ⟨J1, m1⟩ := hJ C R C1 R1 fc fr hJJ
  have sR1 := sR_fr fr hR
  obtain ⟨g1, g2⟩ := hG q C C1 (by omega) hC sc1 (nI a) e1
  have fc' : frC t (en S t) C C1 := frC_trans fc (frC_refl t t C1) (by omega) (by omega) (by omega) (by omega)
  have fr' : frR t (en S t) R R1 := frR_trans fr (frR_refl t t R1) (by omega) (by omega) (by omega) (by omega)
  have bm : be S e (t + 1) * f1 ≤ be S e (t + 1) * f := Nat.mul_le_mul_left _ ff
  rcases post with ⟨rfl, l1, lv1, rw1, pot1⟩ | ⟨rfl, l1⟩ | ⟨rfl, s, l1, su1, lv1⟩ | ⟨rfl, l1⟩
  · rcases g2 rfl R1 sR1 J1 rw1 with ⟨C2, R2, ge, l2, ow, sc2, J2, m2⟩ | ⟨C2, R2, hW, ge, l2, ow, sc2, J2, rw2⟩ | ⟨C2, R2, ge, l2, ow, sc2⟩
    · have lv2 : lv S C2 R2 e (t + 1) := lv_fr hS b1.2.1 ow.1 ow.2.1 (by omega) (by omega) lv1
      have pe : pA S R2 e (t + 1) = pA S R1 e (t + 1) := pA_fr hS b1.2.1 ow.2.1 (by omega)
      have fu2 : fu C2 R2 f1 := ⟨by rw [ow.2.2.1]; exact fu1.1, by rw [ow.2.2.2]; exact fu1.2.1, fu1.2.2⟩
      obtain ⟨a, C', R', f', e', fc2, sc', fr2, ff', fu', tk', post'⟩ := ihP (pA S R2 e (t + 1) + be S e (t + 1) * f1) (by omega) (q + 1) f1 C2 R2 (Nat.le_refl _) (by omega) sc2 (sR_fr ow.2.1 sR1) lv2 J2 fu2
      refine ⟨a, C', R', f', by rw [ge]; exact e', ?_, sc', ?_, by omega, fu', ?_, ?_⟩
      · exact frC_trans (t1 := t) (e1 := en S t) (t2 := t) (e2 := en S t) (frC_trans (t := t) (e := en S t) fc' ow.1 (by omega) (by omega) (by omega) (by omega)) fc2 (by omega) (by omega) (by omega) (by omega)
      · exact frR_trans (t1 := t) (e1 := en S t) (t2 := t) (e2 := en S t) (frR_trans (t := t) (e := en S t) fr' ow.2.1 (by omega) (by omega) (by omega) (by omega)) fr2 (by omega) (by omega) (by omega) (by omega)
      · rw [tk', ow.2.2.1, tk]
      · rcases post' with ⟨rfl, hW, x1, x2, x3, x4, x5⟩ | ⟨rfl, x1, x2, x3⟩ | ⟨rfl, s, x1, x2, x3, x4⟩ | ⟨rfl, x1⟩
        · exact Or.inl ⟨rfl, hW, by rw [l1, l2, x1], x2, x3, x4, by omega⟩
        · exact Or.inr (Or.inl ⟨rfl, by rw [l1, l2, x1], x2, by omega⟩)
        · exact Or.inr (Or.inr (Or.inl ⟨rfl, s, by rw [l1, l2, x1], x2, x3, x4⟩))
        · exact Or.inr (Or.inr (Or.inr ⟨rfl, by rw [l1, l2, x1]⟩))
    · have lv2 : lv S C2 R2 e (t + 1) := lv_fr hS b1.2.1 ow.1 ow.2.1 (by omega) (by omega) lv1
      have pe : pA S R2 e (t + 1) = pA S R1 e (t + 1) := pA_fr hS b1.2.1 ow.2.1 (by omega)
      have fu2 : fu C2 R2 f1 := ⟨by rw [ow.2.2.1]; exact fu1.1, by rw [ow.2.2.2]; exact fu1.2.1, fu1.2.2⟩
      refine ⟨1, C2, R2, f1, ge, frC_trans fc' ow.1 (by omega) (by omega) (by omega) (by omega), sc2, frR_trans fr' ow.2.1 (by omega) (by omega) (by omega) (by omega), ff, fu2, by rw [ow.2.2.1, tk], Or.inl ⟨rfl, hW, by rw [l1, l2], lv2, J2, rw2, by omega⟩⟩
    · have fu2 : fu C2 R2 f1 := ⟨by rw [ow.2.2.1]; exact fu1.1, by rw [ow.2.2.2]; exact fu1.2.1, fu1.2.2⟩
      refine ⟨3, C2, R2, f1, ge, frC_trans fc' ow.1 (by omega) (by omega) (by omega) (by omega), sc2, frR_trans fr' ow.2.1 (by omega) (by omega) (by omega) (by omega), ff, fu2, by rw [ow.2.2.1, tk], Or.inr (Or.inr (Or.inr ⟨rfl, by rw [l1, l2]⟩))⟩
  · exact ⟨0, C1, R1, f1, g1 (by decide), fc', sc1, fr', ff, fu1, tk, Or.inr (Or.inl ⟨rfl, l1, J1, by omega⟩)⟩
  · exact ⟨2, C1, R1, f1, g1 (by decide), fc', sc1, fr', ff, fu1, tk, Or.inr (Or.inr (Or.inl ⟨rfl, s, l1, su1, lv1, J1⟩))⟩
  · exact ⟨3, C1, R1, f1, g1 (by decide), fc', sc1, fr', ff, fu1, tk, Or.inr (Or.inr (Or.inr ⟨rfl, l1⟩))⟩
