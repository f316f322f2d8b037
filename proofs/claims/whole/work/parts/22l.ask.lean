def k34 (S : kS) (t : Nat) : Prop := kd S t = 3 ∨ kd S t = 4
/-- the measure of the loop over pairs -/
def mM (S : kS) (e t : Nat) (R : kM) (f : Nat) : Nat := (pA S R (e + 1) t + be S (e + 1) t * f) + (pA S R e (t + 1) + be S e (t + 1) * f) + (if gp R (lMa 39) t = 0 then 0 else 1)
set_option maxHeartbeats 4000000 in
theorem pair_second {T : kT} {S : kS} {n E e t d q : Nat} {fI : Int32} (hS : sOk S n) (ht : t < n) (hk : k34 S t) (ih2 : AskOk T S n fI E e (se S t) (d + 1)) : ∀ f C R, sC T S n C → sR S n R → lv S C R (e + 1) t → gp R (lMa 39) t = 1 → fu C R f →
    (∃ C' R' f', F_56_53 T (F_49r T E) t (nI d) (nI q) C = some (.inl (nI (q + 1), C')) ∧ frC t (en S t) C C' ∧ sC T S n C' ∧ frR t (en S t) R R' ∧ f' ≤ f ∧ fu C' R' f' ∧ gp C' lRu 1 + nI f' = gp C lRu 1 + nI f ∧ Lp T fI (ak R (se S t)) = Lp T fI (ak R' t) ∧ lv S C' R' (e + 1) t ∧ mM S e t R' f' + 1 ≤ mM S e t R f ∧ pA S R' (e + 1) t + be S (e + 1) t * f' ≤ pA S R (e + 1) t + be S (e + 1) t * f) ∨
    (∃ a C' R' f', F_56_53 T (F_49r T E) t (nI d) (nI q) C = some (.inr (nI a, C')) ∧ frC t (en S t) C C' ∧ sC T S n C' ∧ frR t (en S t) R R' ∧ f' ≤ f ∧ fu C' R' f' ∧ gp C' lRu 1 + nI f' = gp C lRu 1 + nI f ∧
      ((a = 1 ∧ Lp T fI (ak R (se S t)) = Lp T fI (tl R' t 1) ∧ lv S C' R' (e + 1) t ∧ (∀ c, c < wd S t → gp C' (lRw t) c = gp R' (lMa 28) (t * 12 + c)) ∧ pA S R' (e + 1) t + be S (e + 1) t * f' + 1 ≤ pA S R (e + 1) t + be S (e + 1) t * f) ∨
       (a = 2 ∧ ∃ s, Lp T fI (ak R (se S t)) = Lq T fI 2 (ak R' s) ∧ susp S R' (e + 1) t s ∧ lv S C' R' (e + 1) t) ∨
       (a = 3 ∧ Lp T fI (ak R (se S t)) = Lq T fI 3 R'))) := by
  intro f C R hC hR hL h39 hF
  have hN := hS.1
  have hn := nk hS ht
  have hbn : bin S t := by unfold k34 at hk; unfold bin; rcases hk with h | h <;> rw [h] <;> decide
  have k0 : kd S t ≠ 0 := by unfold k34 at hk; rcases hk with h | h <;> rw [h] <;> decide
  have k1 : kd S t ≠ 1 := by unfold k34 at hk; rcases hk with h | h <;> rw [h] <;> decide
  have g2 : ¬ kd S t = 2 := by unfold k34 at hk; rcases hk with h | h <;> rw [h] <;> decide
  have g5 : ¬ kd S t = 5 := by unfold k34 at hk; rcases hk with h | h <;> rw [h] <;> decide
  have g6 : ¬ kd S t = 6 := by unfold k34 at hk; rcases hk with h | h <;> rw [h] <;> decide
  have g8 : ¬ kd S t = 8 := by unfold k34 at hk; rcases hk with h | h <;> rw [h] <;> decide
  have g9 : ¬ kd S t = 9 := by unfold k34 at hk; rcases hk with h | h <;> rw [h] <;> decide
  have g89 : ¬ (kd S t = 8 ∨ kd S t = 9) := by unfold k34 at hk; rcases hk with h | h <;> rw [h] <;> decide
  have g79 : ¬ (kd S t = 7 ∨ kd S t = 9 ∨ kd S t = 10) := by unfold k34 at hk; rcases hk with h | h <;> rw [h] <;> decide
  have g67 : ¬ (kd S t = 6 ∨ kd S t = 7 ∨ kd S t = 10) := by unfold k34 at hk; rcases hk with h | h <;> rw [h] <;> decide
  have g7 : ¬ (kd S t = 7 ∨ kd S t = 10) := by unfold k34 at hk; rcases hk with h | h <;> rw [h] <;> decide
  have hx : ix S t = 0 := ix_0 hS ht k1
  have gx : ¬ ix S t = 1 := by rw [hx]; decide
  have g0 : ¬ (kd S t = 0 ∨ ix S t = 1) := fun z => z.elim k0 gx
  have b1 := hn.2.2.1 k0
  have b3 := hn.2.2.2.2.1 hbn
  have he := hn.1.2.2.2.1
  have hw0 := hn.1.2.2.1
  have hw1 := (nk hS b1.2.1).1.2.2.1
  have hws : wd S t = wd S (t + 1) + wd S (se S t) := by
    unfold k34 at hk
    rcases hk with h | h
    · exact hn.2.2.2.2.2.2.2.1 h
    · exact (hn.2.2.2.2.2.2.2.2.1 h).2.1
  have c3 := hC.2.2.1 t ht
  have hT := hC.1
  rw [lv] at hL
  obtain ⟨hnd, -, -, hL3, -⟩ := hL
  obtain ⟨lvf, hL4⟩ := hL3 hk
  obtain ⟨lvs, half⟩ := hL4 h39
  have pe : ∀ R, pA S R (e + 1) t = pA S R e (t + 1) * al S e (se S t) + (if gp R (lMa 39) t = 0 then 0 else pA S R e (se S t)) := by
    intro R
    rw [pA, if_neg g0, if_neg g9, if_pos (show kd S t = 3 ∨ kd S t = 4 from hk)]
  have be2 : be S e (se S t) ≤ be S (e + 1) t := by rw [be, if_neg g0, if_neg g9, if_pos (show kd S t = 3 ∨ kd S t = 4 from hk)]; exact Nat.le_max_left _ _
  have n39 : ¬ gp R (lMa 39) t = 0 := by rw [h39]; decide
  obtain ⟨a, C1, R1, f1, e1, fc, sc1, fr, ff, fu1, tk, post⟩ := ih2 f C R hC hR lvs hF
  have sR1 := sR_fr fr hR
  have J1 := nd_child hS ht (by omega) C R C1 R1 fc fr hnd
  have rv1 := fr.2.2.2 t (by omega)
  have r39 : gp R1 (lMa 39) t = 1 := by rw [rv1.2.2.1]; exact h39
  have fc' : frC t (en S t) C C1 := frC_trans fc (frC_refl t t C1) (by omega) (by omega) (by omega) (by omega)
  have fr' : frR t (en S t) R R1 := frR_trans fr (frR_refl t t R1) (by omega) (by omega) (by omega) (by omega)
  have lvf1 : lv S C1 R1 e (t + 1) := lv_fr hS b1.2.1 fc fr (by omega) (by omega) lvf
  have pAf1 : pA S R1 e (t + 1) = pA S R e (t + 1) := pA_fr hS b1.2.1 fr (by omega)
  have cv1 : gp C1 (lRw (t + 1)) = gp C (lRw (t + 1)) := (cvE_fr (k := t + 1) fc (by omega)) 17 (by omega) (by omega)
  have half1 : ∀ c, c < wd S (t + 1) → gp R1 (lMa 29) (t * 12 + c) = gp C1 (lRw (t + 1)) c := by
    intro c hc
    rw [rv1.2.2.2.2.1 c (by omega), cv1]
    exact half c hc
  have bm1 := Nat.mul_le_mul_left (be S e (t + 1)) ff
  have bm2 := Nat.mul_le_mul_left (be S (e + 1) t) ff
  have lvT : ∀ {C R : kM}, nd S t C R → lv S C R e (t + 1) → (gp R (lMa 39) t = 1 → lv S C R e (se S t) ∧ ∀ c, c < wd S (t + 1) → gp R (lMa 29) (t * 12 + c) = gp C (lRw (t + 1)) c) → lv S C R (e + 1) t := by
    intro C R z1 z2 z3
    rw [lv]
    exact ⟨z1, fun z => by rcases z with z | z | z | z; exact absurd z.1 k1; exact absurd z g2; exact absurd z g6; exact absurd z g8, fun z => absurd z g79, fun _ => ⟨z2, z3⟩, fun z => absurd z g5⟩
  have e53 : F_56_53 T (F_49r T E) t (nI d) (nI q) C = (if nI a = 0 then (some (.inl ((nI q + 1), sp C1 (lTm t) 13 0))) else (if nI a = 1 then (kBd (F_57 T (some t) C1) (fun r11 M12 => if r11 = 0 then (some (.inl ((nI q + 1), M12))) else (kBd (F_69 T (gq M12 (lTm t) 7) (some t) 0 M12) (fun r15 M16 => kBd (F_18 T (gq M16 (lTm t) 7) M16) (fun r18 M19 => kBd (F_69 T (gq M16 (lTm t) 8) (some t) r18 M19) (fun r21 M22 => some (.inr ((1, M22))))))))) else (some (.inr ((nI a, C1)))))) := by
    unfold F_56_53
    rw [lv_tm (by omega), kGd_t, c3.2.2.2.2.2.2.2.1 hbn, pn_addL, e1, kBd_s]
  rcases post with ⟨rfl, l1, lv1, rw1, pot1⟩ | ⟨rfl, l1⟩ | ⟨rfl, s, l1, su1, lv1⟩ | ⟨rfl, l1⟩
  · have rc := rc_second (T := T) (M := tl R1 (se S t) 1) hS (sR_fr (fr_tl (t := 0) (e := 0)) sR1) ht hk
    have lpf : ∀ {b : Int32} {M' : kM}, F_131 T (nI t) (nI (se S t)) (tl R1 (se S t) 1) = some (b, M') → Lp T fI (tl R1 (se S t) 1) = if b = 0 then Lq T fI 3 M' else Lp T fI M' := fun h => lp_tl1 (T := T) (f := fI) (M := R1) hS sR1 (by omega) b3.2.1 (by omega) (by rw [b3.2.2.2.1]; exact h)
    have c31 := sc1.2.2.1 t ht
    rw [if_neg (by decide), if_pos n11] at e53
    have e57 : F_57 T (some t) C1 = some (if kd S t = 4 ∧ gp (tl R1 (se S t) 1) (lMa 29) (t * 12 + ch S t) ≠ gp (tl R1 (se S t) 1) (lMa 28) (se S t * 12 + ot S t) then 0 else 1, C1) := by
      unfold F_57
      rw [kOpt_s, lv_tm (by omega), kGd_t, c31.1]
      unfold k34 at hk
      by_cases q4 : kd S t = 4
      · have hj := hn.2.2.2.2.2.2.2.2.1 q4
        rw [if_neg (by rw [q4]; decide), c31.2.2.2.2.2.2.1 k0, c31.2.1, cl_val hS sc1 b1.2.1 hj.2.2.2.1, kBd_s, c31.2.2.2.2.2.2.2.1 hbn, c31.2.2.1, cl_val hS sc1 b3.2.1 hj.2.2.2.2.2, kBd_s]
        rw [show gp (tl R1 (se S t) 1) (lMa 29) (t * 12 + ch S t) = gp C1 (lRw (t + 1)) (ch S t) from half1 _ hj.2.2.2.1, show gp (tl R1 (se S t) 1) (lMa 28) (se S t * 12 + ot S t) = gp C1 (lRw (se S t)) (ot S t) from (rw1 _ hj.2.2.2.2.2).symm]
        by_cases qe : gp C1 (lRw (t + 1)) (ch S t) = gp C1 (lRw (se S t)) (ot S t)
        · rw [if_pos qe, if_neg (fun z => z.2 qe)]
        · rw [if_neg qe, if_pos ⟨q4, qe⟩]
      · rw [if_pos (by rcases hk with h | h; rw [h]; rfl; exact absurd h q4), if_neg (fun z => q4 z.1)]
    rw [e57, kBd_s] at e53
    by_cases qm : kd S t = 4 ∧ gp (tl R1 (se S t) 1) (lMa 29) (t * 12 + ch S t) ≠ gp (tl R1 (se S t) 1) (lMa 28) (se S t * 12 + ot S t)
    · rw [if_pos qm, if_pos rfl, pn_addL] at e53
      rw [if_pos qm] at rc
      have lp := lpf rc
      rw [if_neg (by decide)] at lp
      have sRt : sR S n (tl R1 (se S t) 1) := sR_fr (fr_tl (t := 0) (e := 0)) sR1
      have lp2 := lp_sec (T := T) (fI := fI) (R := tl R1 (se S t) 1) hS sRt ht hbn r39
      have frt : frR t (en S t) R1 (tl R1 (se S t) 1) := fr_tl
      have frn : frR (n + 1) n R1 (tl R1 (se S t) 1) := fr_tl
      refine Or.inl ⟨C1, tl R1 (se S t) 1, f1, e53, fc', sc1, frR_trans fr' frt (by omega) (by omega) (by omega) (by omega), ff, fu1, tk, by rw [l1, lp, lp2], lvT (nd_tl J1) (lv_mo hS b1.2.1 frn lvf1) (fun _ => ⟨lv_mo hS b3.2.1 frn lv1, half1⟩), ?_⟩
      have q39 : ¬ gp (tl R1 (se S t) 1) (lMa 39) t = 0 := by intro z; exact absurd (r39.symm.trans z) (by decide)
      have pot2 := pot_up pot1 ff be2
      unfold mM
      rw [pe, pe R, if_neg q39, if_neg n39, if_neg q39, if_neg n39, pA_mo hS b1.2.1 frn, pA_mo hS b3.2.1 frn, pAf1]
      generalize pA S R e (t + 1) * al S e (se S t) = z1
      omega
    · rw [if_neg qm, if_neg (by decide), c31.2.2.2.2.2.2.1 k0, cl_copy0 hS sc1 b1.2.1 ht hw1, kBd_s] at e53
      rw [if_neg qm] at rc
      have lp := lpf rc
      rw [if_neg (by decide)] at lp
      generalize hC2 : sa C1 (lRw t) (fl (gp C1 (lRw t)) 0 (wd S (t + 1)) (fun c => gp C1 (lRw (t + 1)) c)) = C2 at e53
      have sC2 : sC T S n C2 := by rw [← hC2]; exact sC_sa (by omega) sc1
      have c32 := sC2.2.2.1 t ht
      have c321 := sC2.2.2.1 (t + 1) b1.2.1
      have e18 : F_18 T (some (t + 1)) C2 = some (nI (wd S (t + 1)), C2) := by
        unfold F_18
        rw [kOpt_s, lv_tm (by omega), kGd_t, c321.2.2.2.2.2.1]
      rw [c32.2.2.2.2.2.2.1 k0, e18, kBd_s, c32.2.2.2.2.2.2.2.1 hbn, cl_copy hS sC2 b3.2.1 ht (by omega), kBd_s] at e53
      have ow : own t C1 (sa C2 (lRw t) (fl (gp C2 (lRw t)) (wd S (t + 1)) (wd S (se S t)) (fun c => gp C2 (lRw (se S t)) c))) R1 (sa (tl R1 (se S t) 1) (lMa 28) (fl (gp (tl R1 (se S t) 1) (lMa 28)) (t * 12) (wd S t) (fun c => if wd S (t + 1) ≤ c then gp (tl R1 (se S t) 1) (lMa 28) (se S t * 12 + (c - wd S (t + 1))) else gp (tl R1 (se S t) 1) (lMa 29) (t * 12 + c)))) := by
        refine ⟨?_, ?_, ?_, rfl⟩
        · rw [← hC2]
          exact frC_trans (t1 := t) (e1 := t) (t2 := t) (e2 := t) (frC_sa (by omega)) (frC_sa (by omega)) (by omega) (by omega) (by omega) (by omega)
        · exact frR_trans (t1 := t) (e1 := t) (t2 := t) (e2 := t) fr_tl (frR_mr (by omega) (fun i hi => fl_out (by omega))) (by omega) (by omega) (by omega) (by omega)
        · rw [← hC2]; simp (disch := omega) only [gp_ne, gpa_ne, gp_sp, gp_sa, upd_eq, upd_ne, gq_sp, gq_sa]
      refine Or.inr ⟨1, _, _, f1, e53, frC_trans fc' ow.1 (by omega) (by omega) (by omega) (by omega), sC_sa (by omega) sC2, frR_trans fr' ow.2.1 (by omega) (by omega) (by omega) (by omega), ff, fu_own ow fu1, by rw [ow.2.2.1]; exact tk, Or.inl ⟨rfl, by rw [l1, lp]; rfl, lvT ?_ (lv_fr hS b1.2.1 ow.1 ow.2.1 (by omega) (by omega) lvf1) (fun _ => ⟨lv_fr hS b3.2.1 ow.1 ow.2.1 (by omega) (by omega) lv1, ?_⟩), ?_, ?_⟩⟩
      · rw [← hC2]
        refine nd_cg ?_ ?_ ?_ ?_ rfl rfl rfl rfl J1 <;> simp (disch := omega) only [gp_ne, gpa_ne, gp_sp, gp_sa, upd_eq, upd_ne, gq_sp, gq_sa]
      · intro c hc
        have := half1 c hc
        rw [← hC2]
        simp (disch := omega) only [gp_ne, gpa_ne, gp_sp, gp_sa, upd_eq, upd_ne, gq_sp, gq_sa]
        exact this
      · intro c hc
        rw [← hC2]
        simp (disch := omega) only [gp_ne, gpa_ne, gp_sp, gp_sa, upd_eq, upd_ne, gq_sp, gq_sa]
        rw [fl_in hc]
        by_cases qc : wd S (t + 1) ≤ c
        · rw [if_pos qc]
          have := fl_in (g := fl (gp C1 (lRw t)) 0 (wd S (t + 1)) (fun c => gp C1 (lRw (t + 1)) c)) (d := wd S (t + 1)) (w := wd S (se S t)) (j := c - wd S (t + 1)) (src := fun c => gp C1 (lRw (se S t)) c) (by omega)
          rw [show wd S (t + 1) + (c - wd S (t + 1)) = c by omega] at this
          rw [this]
          exact rw1 _ (by omega)
        · rw [if_neg qc, fl_out (by omega), fl0_in (by omega)]
          exact (half1 c (by omega)).symm
      · have q39 : ¬ gp (sa (tl R1 (se S t) 1) (lMa 28) (fl (gp (tl R1 (se S t) 1) (lMa 28)) (t * 12) (wd S t) (fun c => if wd S (t + 1) ≤ c then gp (tl R1 (se S t) 1) (lMa 28) (se S t * 12 + (c - wd S (t + 1))) else gp (tl R1 (se S t) 1) (lMa 29) (t * 12 + c)))) (lMa 39) t = 0 := by intro z; exact absurd (r39.symm.trans z) (by decide)
        have pot2 := pot_up pot1 ff be2
        rw [pe, pe R, if_neg q39, if_neg n39, pA_fr hS b1.2.1 ow.2.1 (by omega), pA_fr hS b3.2.1 ow.2.1 (by omega), pAf1]
        generalize pA S R e (t + 1) * al S e (se S t) = z1
        omega
  · rw [if_pos (show nI 0 = 0 from rfl), pn_addL] at e53
    have re := re_cross (T := T) (M := tl R1 (se S t) 0) hS (sR_fr (fr_tl (t := 0) (e := 0)) sR1) ht hk
    have lp := lp_tl0 (T := T) (f := fI) (M := R1) hS sR1 (by omega) b3.2.1 (by omega) (by rw [b3.2.2.2.1]; exact re)
    have fcx : frC t t C1 (sp C1 (lTm t) 13 0) := frC_sp (by omega)
    have frx : frR t t R1 (sp (tl R1 (se S t) 0) (lMa 39) t 0) := frR_trans (t1 := t) (e1 := t) (t2 := t) (e2 := t) fr_tl (frR_mp (by omega) (by omega) (by omega)) (by omega) (by omega) (by omega) (by omega)
    have q39 : gp (sp (tl R1 (se S t) 0) (lMa 39) t 0) (lMa 39) t = 0 := by simp (disch := omega) only [gp_ne, gpa_ne, gp_sp, gp_sa, upd_eq, upd_ne, gq_sp, gq_sa]
    have hp : pas S (sp (tl R1 (se S t) 0) (lMa 39) t 0) t := ⟨k0, hx, fun z => absurd z g8, fun _ _ _ _ => q39⟩
    have lp0 := lp_pas (T := T) (fI := fI) hS (sR_fr frx sR1) ht hp
    refine Or.inl ⟨_, sp (tl R1 (se S t) 0) (lMa 39) t 0, f1, e53, frC_trans fc' fcx (by omega) (by omega) (by omega) (by omega), sC_tm (by omega) sc1, frR_trans fr' frx (by omega) (by omega) (by omega) (by omega), ff, fu1, tk, by rw [l1, lp, lp0], lvT ?_ (lv_fr hS b1.2.1 fcx frx (by omega) (by omega) lvf1) (fun z => absurd (z.symm.trans q39) (by decide)), ?_⟩
    · refine ⟨fun z => absurd z k0, fun z => absurd z gx, fun z => absurd z g89, fun _ => ?_, fun z => absurd z g5, fun z => absurd z g79, ?_, fun z => absurd z g7, fun z => absurd z g67⟩
      · simp (disch := omega) only [gp_ne, gpa_ne, gp_sp, gp_sa, upd_eq, upd_ne, gq_sp, gq_sa]
      · simp (disch := omega) only [gp_ne, gpa_ne, gp_sp, gp_sa, upd_eq, upd_ne, gq_sp, gq_sa]; exact Or.inl rfl
    · unfold mM
      rw [pe, pe R, if_pos q39, if_neg n39, if_pos q39, if_neg n39, pA_fr hS b1.2.1 frx (by omega), pAf1]
      generalize pA S R e (t + 1) * al S e (se S t) = z1
      omega
  · rw [if_neg (by decide), if_neg (by decide)] at e53
    exact Or.inr ⟨2, C1, R1, f1, e53, fc', sc1, fr', ff, fu1, tk, Or.inr (Or.inl ⟨rfl, s, l1, Or.inr (Or.inr ⟨hbn, r39, su1⟩), lvT J1 lvf1 (fun _ => ⟨lv1, half1⟩)⟩)⟩
  · rw [if_neg (by decide), if_neg (by decide)] at e53
    exact Or.inr ⟨3, C1, R1, f1, e53, fc', sc1, fr', ff, fu1, tk, Or.inr (Or.inr ⟨rfl, l1⟩)⟩
