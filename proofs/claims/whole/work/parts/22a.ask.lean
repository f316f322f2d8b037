/-! asking -/
set_option maxHeartbeats 4000000 in
theorem ak_eq (R : kM) (x : Nat) : ak R x = sa R lMo (fun i => if i = 36 then 1 else if i = 35 then nI x else gp R lMo i) := by
  unfold ak sp
  rw [sa_sa, gp_sa]
  rfl
set_option maxHeartbeats 4000000 in
theorem tl_eq (R : kM) (x : Nat) (b : Int32) : tl R x b = sa R lMo (fun i => if i = 37 then b else if i = 36 then 0 else if i = 35 then nI x else gp R lMo i) := by
  unfold tl sp
  rw [sa_sa, sa_sa, gp_sa, gp_sa]
  rfl
set_option maxHeartbeats 4000000 in
theorem ak_ak (R : kM) (x y : Nat) : ak (ak R x) y = ak R y := by
  rw [ak_eq, ak_eq, ak_eq, sa_sa, gp_sa]
  congr 1
  funext i
  by_cases h : i = 36
  · simp only [h, if_true]
  · by_cases h2 : i = 35
    · simp only [h, h2, if_true, if_false]
    · simp only [h, h2, if_false]
set_option maxHeartbeats 4000000 in
theorem fr_ak {t e x : Nat} {R : kM} : frR t e R (ak R x) := frR_trans (t1 := t) (e1 := e) (t2 := t) (e2 := e) (frR_mo (by omega)) (frR_mo (by omega)) (by omega) (by omega) (by omega) (by omega)
set_option maxHeartbeats 4000000 in
theorem fr_tl {t e x : Nat} {b : Int32} {R : kM} : frR t e R (tl R x b) := by
  have h1 : frR t e R (sp (sp R lMo 35 (nI x)) lMo 36 0) := frR_trans (t1 := t) (e1 := e) (t2 := t) (e2 := e) (frR_mo (by omega)) (frR_mo (by omega)) (by omega) (by omega) (by omega) (by omega)
  exact frR_trans (t1 := t) (e1 := e) (t2 := t) (e2 := e) h1 (frR_mo (by omega)) (by omega) (by omega) (by omega) (by omega)
set_option maxHeartbeats 4000000 in
theorem lv_fr {S : kS} {n t1 e1 t2 e2 e t : Nat} {C C' R R' : kM} (hS : sOk S n) (ht : t < n) (hc : frC t1 e1 C C') (hr : frR t2 e2 R R') (h1 : en S t < t1 ∨ e1 < t) (h2 : en S t < t2 ∨ e2 < t) (h : lv S C R e t) : lv S C' R' e t :=
  lv_congr hS e t ht (fun k a b => ⟨cvE_fr hc (by omega), hr.2.2.2 k (by omega)⟩) h
set_option maxHeartbeats 4000000 in
theorem pA_fr {S : kS} {n t2 e2 e t : Nat} {R R' : kM} (hS : sOk S n) (ht : t < n) (hr : frR t2 e2 R R') (h2 : en S t < t2 ∨ e2 < t) : pA S R' e t = pA S R e t :=
  pA_congr hS e t ht (fun k a b => hr.2.2.2 k (by omega))
set_option maxHeartbeats 4000000 in
theorem lv_mo {S : kS} {n e t : Nat} {C R R' : kM} (hS : sOk S n) (ht : t < n) (hr : frR (n + 1) n R R') (h : lv S C R e t) : lv S C R' e t := by
  have := (nk hS ht).1
  exact lv_fr hS ht (frC_refl (n + 1) n C) hr (by omega) (by omega) h
set_option maxHeartbeats 4000000 in
theorem pA_mo {S : kS} {n e t : Nat} {R R' : kM} (hS : sOk S n) (ht : t < n) (hr : frR (n + 1) n R R') : pA S R' e t = pA S R e t := by
  have := (nk hS ht).1
  exact pA_fr hS ht hr (by omega)
def fu (C R : kM) (f : Nat) : Prop := gp C lRu 0 = nI f ∧ gp R lMo 25 = nI f ∧ f ≤ 500
/-- asking passes on to the first part -/
def pas (S : kS) (R : kM) (t : Nat) : Prop := kd S t ≠ 0 ∧ ix S t = 0 ∧ (kd S t = 8 → gp R (lMa 26) t < vl S t) ∧ (¬ kd S t = 1 → ¬ kd S t = 2 → ¬ kd S t = 6 → ¬ kd S t = 8 → gp R (lMa 39) t = 0)
def susp (S : kS) (R : kM) : Nat → Nat → Nat → Prop
  | 0, _, _ => False
  | e + 1, t, s => s = t ∨ (pas S R t ∧ susp S R e (t + 1) s) ∨ (bin S t ∧ gp R (lMa 39) t = 1 ∧ susp S R e (se S t) s)
set_option maxHeartbeats 4000000 in
theorem lp_pas {T : kT} {S : kS} {n t : Nat} {fI : Int32} {R : kM} (hS : sOk S n) (hR : sR S n R) (ht : t < n) (h : pas S R t) : Lp T fI (ak R t) = Lp T fI (ak R (t + 1)) := by
  rw [lp_ak (ra_pass (M := ak R t) hS (sR_fr (fr_ak (t := 0) (e := 0)) hR) ht h.1 h.2.1 h.2.2.1 h.2.2.2), if_neg (by decide), ak_ak]
set_option maxHeartbeats 4000000 in
theorem lp_sec {T : kT} {S : kS} {n t : Nat} {fI : Int32} {R : kM} (hS : sOk S n) (hR : sR S n R) (ht : t < n) (hb : bin S t) (h : gp R (lMa 39) t = 1) : Lp T fI (ak R t) = Lp T fI (ak R (se S t)) := by
  rw [lp_ak (ra_sec (M := ak R t) hS (sR_fr (fr_ak (t := 0) (e := 0)) hR) ht hb h), if_neg (by decide), ak_ak]
set_option maxHeartbeats 4000000 in
theorem susp_run {T : kT} {S : kS} {n : Nat} {fI : Int32} {R : kM} (hS : sOk S n) (hR : sR S n R) : ∀ e t s, t < n → susp S R e t s → Lp T fI (ak R t) = Lp T fI (ak R s) := by
  intro e
  induction e with
  | zero => intro t s _ h; exact absurd h id
  | succ e ih =>
    intro t s ht h
    rw [susp] at h
    rcases h with h | h | h
    · rw [h]
    · rw [lp_pas hS hR ht h.1]
      exact ih _ _ ((nk hS ht).2.2.1 h.1.1).2.1 h.2
    · rw [lp_sec hS hR ht h.1 h.2.1]
      exact ih _ _ ((nk hS ht).2.2.2.2.1 h.1).2.1 h.2.2
def pst (T : kT) (S : kS) (n : Nat) (fI : Int32) (e t f : Nat) (C R : kM) (a : Nat) (C' R' : kM) (f' : Nat) : Prop :=
  frC t (en S t) C C' ∧ sC T S n C' ∧ frR t (en S t) R R' ∧ f' ≤ f ∧ fu C' R' f' ∧ gp C' lRu 1 + nI f' = gp C lRu 1 + nI f ∧
  ((a = 1 ∧ Lp T fI (ak R t) = Lp T fI (tl R' t 1) ∧ lv S C' R' e t ∧ (∀ c, c < wd S t → gp C' (lRw t) c = gp R' (lMa 28) (t * 12 + c)) ∧ pA S R' e t + be S e t * f' + 1 ≤ pA S R e t + be S e t * f) ∨
   (a = 0 ∧ Lp T fI (ak R t) = Lp T fI (tl R' t 0)) ∨
   (a = 2 ∧ ∃ s, Lp T fI (ak R t) = Lq T fI 2 (ak R' s) ∧ susp S R' e t s ∧ lv S C' R' e t) ∨
   (a = 3 ∧ Lp T fI (ak R t) = Lq T fI 3 R'))
def AskOk (T : kT) (S : kS) (n : Nat) (fI : Int32) (E e t d : Nat) : Prop := ∀ f C R, sC T S n C → sR S n R → lv S C R e t → fu C R f → ∃ a C' R' f', F_49r T E (some t) (nI d) C = some (nI a, C') ∧ pst T S n fI e t f C R a C' R' f'
set_option maxHeartbeats 4000000 in
theorem kBd_id {α : Type} {x : Option (α × kM)} : kBd x (fun r M => some (r, M)) = x := by
  cases x with
  | none => rfl
  | some z => rfl
/-! a row of a table -/
set_option maxHeartbeats 4000000 in
theorem ask_leaf {T : kT} {S : kS} {n E e t d : Nat} {fI : Int32} (hS : sOk S n) (ht : t < n) (hd : d < 10) (h0 : kd S t = 0) : AskOk T S n fI (E + 1) (e + 1) t d := by
  intro f C R hC hR hL hF
  have h1 := hS.1
  have hT := hC.1
  have hn := nk hS ht
  have hx := hn.2.2.2.2.2.2.2.2.2.2.2.2.2.2.2
  have hx0 : ix S t = 0 := by rw [hx, if_neg (by omega)]
  have hc := hn.2.1 h0
  have h2 := hS.2.2.1 _ hc.2.2.2.1
  have hR' : sR S n (ak R t) := sR_fr (fr_ak (t := 0) (e := 0)) hR
  have hL0 := hL
  rw [lv] at hL
  have hnd := hL.1
  obtain ⟨p, p1, p2, p3⟩ := hnd.1 h0
  have c3 := hC.2.2.1 t ht
  have e1 : F_49r T (E + 1) (some t) (nI d) C = F_52 T (some t) (some (sc S t)) (nI p) C := by
    rw [F_49r]
    unfold F_49 F_50
    rw [kOpt_s, c3.1, h0, if_pos (by simp (disch := omega) only [pn_mulL, pn_addL, pn_addR, pn_ltL, pn_ltR, pn_leL, pn_leR, pn_eqL, pn_eqR, pn_subL, pn_z, pn_add, pn_mul, pn_nat, pn_inj, pn_lt, pn_le, pn_neg, kGx_nI, kGx_L]; omega), kBd_id]
    simp (disch := omega) only [pn_mulL, pn_addL, pn_addR, pn_ltL, pn_ltR, pn_leL, pn_leR, pn_eqL, pn_eqR, pn_subL, pn_z, pn_add, pn_mul, pn_nat, pn_inj, pn_lt, pn_le, pn_neg, kGx_nI, kGx_L, kGd_t, kBd_s, kOpt_s, kOpt_n, kLf_s, kAg_l, kAg_r, kAg_f, if_true, if_false, ite_true, ite_false, eq_self_iff_true, ↓reduceIte, Nat.reduceEqDiff, Nat.reduceLeDiff, Nat.reduceLT, Nat.reduceAdd, Nat.reduceMul, Nat.reduceSub, Int32.reduceLT, Int32.reduceLE, Nat.add_zero, Nat.zero_add, Nat.succ_ne_self, Nat.not_lt_zero, Nat.one_ne_zero, Nat.zero_ne_one, i01, i02, i03, i04, i10, i12, i13, i14, i20, i21, i23, i24, i30, i31, i32, i34, i40, i41, i42, i43, not_true_eq_false, not_false_eq_true, lv_tm, c3.2.2.2.2.2.2.2.2.1 h0, p2]
    rw [kBd_id]
  have tk := cl_take (T := T) (t := t) (j := sc S t) (k := p) hS hC ht hc.2.2.2.1 p1 hF.1 hF.2.2
  have rs := ra_scan (T := T) (t := t) (p := p) (M := ak R t) hS hR' ht h0 p3 p1
  have l25 : gp (ak R t) lMo 25 = gp R lMo 25 := rfl
  rw [l25, hF.2.1] at rs
  rw [e1, tk]
  by_cases q : p < tr S (sc S t)
  · rw [if_pos q]
    rw [if_neg (show ¬ p = tr S (sc S t) by omega)] at rs
    by_cases q2 : f = 0
    · subst q2
      rw [if_pos rfl]
      rw [if_pos (show nI 0 = 0 from rfl)] at rs
      have lp := lp_ak (f := fI) rs
      refine ⟨2, C, R, 0, rfl, frC_refl _ _ _, hC, frR_refl _ _ _, by omega, hF, rfl, Or.inr (Or.inr (Or.inl ⟨rfl, t, ?_, Or.inl rfl, hL0⟩))⟩
      rw [lp, if_pos rfl]
    · rw [if_neg q2]
      rw [if_neg (by rw [show (0 : Int32) = nI 0 from rfl, pn_inj (by have := hF.2.2; omega) (by omega)]; exact q2)] at rs
      have lp := lp_ak (f := fI) rs
      have hf5 := hF.2.2
      refine ⟨1, _, sp (sa (sp (ak R t) lMo 25 (gp (ak R t) lMo 25 - 1)) (lMa 28) (fl (gp (ak R t) (lMa 28)) (t * 12) (tw S (sc S t)) (fun c => gp (ak R t) (lMa 5) ((sc S t * 40 + p) * 6 + c)))) (lMa 38) t (nI (p + 1)), f - 1, rfl, ?_, ?_, ?_, by omega, ⟨?_, ?_, by omega⟩, ?_, Or.inl ⟨rfl, ?_, ?_, ?_, ?_⟩⟩
      · unfold tkM
        exact frC_trans (t1 := t) (e1 := t) (t2 := t) (e2 := t) (frC_trans (t := t) (e := t) (t1 := t) (e1 := t) (t2 := t) (e2 := t) (frC_trans (t := t) (e := t) (t1 := t) (e1 := t) (t2 := t) (e2 := t) (frC_sp (by omega)) (frC_sp (by omega)) (by omega) (by omega) (by omega) (by omega)) (frC_sa (by omega)) (by omega) (by omega) (by omega) (by omega)) (frC_sp (by omega)) (by omega) (by omega) (by omega) (by omega)
      · exact sC_tm (by omega) (sC_sa (by omega) (sC_sp (by omega) (sC_sp (by omega) hC)))
      · refine frR_trans (t1 := t) (e1 := t) (t2 := t) (e2 := t) ?_ (frR_mp (by omega) (by omega) (by omega)) (by omega) (by omega) (by omega) (by omega)
        refine frR_trans (t1 := t) (e1 := t) (t2 := t) (e2 := t) ?_ (frR_mr (by omega) (fun i hi => fl_out (by omega))) (by omega) (by omega) (by omega) (by omega)
        exact frR_trans (t1 := t) (e1 := t) (t2 := t) (e2 := t) fr_ak (frR_mo (by omega)) (by omega) (by omega) (by omega) (by omega)
      · unfold tkM; simp (disch := omega) only [gp_ne, gpa_ne, gp_sp, gp_sa, upd_eq, upd_ne, gq_sp, gq_sa]
      · simp (disch := omega) only [gp_ne, gpa_ne, gp_sp, gp_sa, upd_eq, upd_ne, gq_sp, gq_sa]; rw [l25, hF.2.1, pn_subL _ (by omega)]
      · unfold tkM; simp (disch := omega) only [gp_ne, gpa_ne, gp_sp, gp_sa, upd_eq, upd_ne, gq_sp, gq_sa]
        rw [show nI f = nI (f - 1) + 1 by rw [pn_addL]; congr 1; omega, Int32.add_assoc, Int32.add_comm 1]
      · rw [lp, if_neg (by decide)]; rfl
      · rw [lv]
        refine ⟨⟨fun _ => ⟨p + 1, by omega, ?_, ?_⟩, fun z => absurd z (by omega), fun z => absurd z (by omega), fun z => absurd z (by omega), fun z => absurd z (by omega), fun z => absurd z (by omega), ?_, fun z => absurd z (by omega), fun z => absurd z (by omega)⟩, fun z => absurd z (by omega), fun z => absurd z (by omega), fun z => absurd z (by omega), fun z => absurd z (by omega)⟩
        · unfold tkM; simp (disch := omega) only [gp_ne, gpa_ne, gp_sp, gp_sa, upd_eq, upd_ne, gq_sp, gq_sa]
        · simp (disch := omega) only [gp_ne, gpa_ne, gp_sp, gp_sa, upd_eq, upd_ne, gq_sp, gq_sa]
        · have := hnd.2.2.2.2.2.2.1
          simp (disch := omega) only [gp_ne, gpa_ne, gp_sp, gp_sa, upd_eq, upd_ne, gq_sp, gq_sa]
          exact this
      · intro c hc'
        have cc := (hC.2.2.2 _ hc.2.2.2.1).2.2 p c q (by omega)
        have rr := (hR.2 _ hc.2.2.2.1).2.2 p c q (by omega)
        unfold tkM
        simp (disch := omega) only [gp_ne, gpa_ne, gp_sp, gp_sa, upd_eq, upd_ne, gq_sp, gq_sa]
        have z1 := fl_in (g := gp C (lRw t)) (d := 0) (w := tw S (sc S t)) (j := c) (src := fun c => gp C (lTc (sc S t)) (p * tw S (sc S t) + c)) (by omega)
        rw [Nat.zero_add] at z1
        rw [z1, fl_in (by omega)]
        show gp C (lTc (sc S t)) (p * tw S (sc S t) + c) = gp R (lMa 5) ((sc S t * 40 + p) * 6 + c)
        rw [cc, rr]
      · rw [pA, pA, be, if_pos (Or.inl h0), if_pos (Or.inl h0), if_pos (Or.inl h0)]; omega
  · rw [if_neg q]
    rw [if_pos (show p = tr S (sc S t) by omega)] at rs
    have lp := lp_ak (f := fI) rs
    rw [if_neg (by decide)] at lp
    refine ⟨0, C, ak R t, f, rfl, frC_refl _ _ _, hC, fr_ak, by omega, hF, rfl, Or.inr (Or.inl ⟨rfl, lp⟩)⟩
