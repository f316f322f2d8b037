set_option maxHeartbeats 4000000 in
theorem pot_mul {p p' b f f' al B : Nat} (h : p' + b * f' + 1 ≤ p + b * f) (hf : f' ≤ f) (hB : b * al ≤ B) : p' * al + al + B * f' ≤ p * al + B * f := by
  obtain ⟨g, rfl⟩ : ∃ g, f = f' + g := ⟨f - f', by omega⟩
  have h1 : p' + 1 ≤ p + b * g := by rw [Nat.mul_add] at h; omega
  have h2 := Nat.mul_le_mul_right al h1
  rw [Nat.add_mul, Nat.add_mul, Nat.one_mul] at h2
  have h3 : b * g * al = b * al * g := by rw [Nat.mul_assoc, Nat.mul_comm g al, ← Nat.mul_assoc]
  have h4 := Nat.mul_le_mul_right g hB
  rw [Nat.mul_add]
  omega
set_option maxHeartbeats 4000000 in
theorem pair_loop {T : kT} {S : kS} {n E e t d : Nat} {fI : Int32} (hS : sOk S n) (ht : t < n) (hk : k34 S t) (hh : hg S t ≤ e) (hd : d + hg S t ≤ 9) (ih1 : AskOk T S n fI E e (t + 1) (d + 1)) (ih2 : AskOk T S n fI E e (se S t) (d + 1)) : ∀ P q f C R, mM S e t R f ≤ P → q + P < 1000000 → sC T S n C → sR S n R → lv S C R (e + 1) t → fu C R f →
    ∃ a C' R' f', F_56_2 T (F_49r T E) (some t) (nI d) (nI q) C = some (nI a, C') ∧ pst T S n fI (e + 1) t f C R a C' R' f' := by
  have hN := hS.1
  have hn := nk hS ht
  have hbn : bin S t := by unfold k34 at hk; unfold bin; rcases hk with h | h <;> rw [h] <;> decide
  have k0 : kd S t ≠ 0 := by unfold k34 at hk; rcases hk with h | h <;> rw [h] <;> decide
  have k1 : kd S t ≠ 1 := by unfold k34 at hk; rcases hk with h | h <;> rw [h] <;> decide
  have g2 : ¬ kd S t = 2 := by unfold k34 at hk; rcases hk with h | h <;> rw [h] <;> decide
  have g5 : ¬ kd S t = 5 := by unfold k34 at hk; rcases hk with h | h <;> rw [h] <;> decide
  have g6 : ¬ kd S t = 6 := by unfold k34 at hk; rcases hk with h | h <;> rw [h] <;> decide
  have g8 : ¬ kd S t = 8 := by unfold k34 at hk; rcases hk with h | h <;> rw [h] <;> decide
  have g9 : ¬ kd S t = 9 := by unfold k34 at hk; rcases hk with h | h <;> rw [h] <;> decide
  have g89 : ¬ (kd S t = 8 ∨ kd S t = 9) := by unfold k34 at hk; rcases hk with h | h <;> rw [h] <;> decide
  have g79 : ¬ (kd S t = 7 ∨ kd S t = 9 ∨ kd S t = 10) := by unfold k34 at hk; rcases hk with h | h <;> rw [h] <;> decide
  have g67 : ¬ (kd S t = 6 ∨ kd S t = 7 ∨ kd S t = 10) := by unfold k34 at hk; rcases hk with h | h <;> rw [h] <;> decide
  have g7 : ¬ (kd S t = 7 ∨ kd S t = 10) := by unfold k34 at hk; rcases hk with h | h <;> rw [h] <;> decide
  have hx : ix S t = 0 := ix_0 hS ht k1
  have gx : ¬ ix S t = 1 := by rw [hx]; decide
  have g0 : ¬ (kd S t = 0 ∨ ix S t = 1) := fun z => z.elim k0 gx
  have b1 := hn.2.2.1 k0
  have b3 := hn.2.2.2.2.1 hbn
  have he := hn.1.2.2.2.1
  have hw1 := (nk hS b1.2.1).1.2.2.1
  have pe : ∀ R, pA S R (e + 1) t = pA S R e (t + 1) * al S e (se S t) + (if gp R (lMa 39) t = 0 then 0 else pA S R e (se S t)) := by
    intro R
    rw [pA, if_neg g0, if_neg g9, if_pos (show kd S t = 3 ∨ kd S t = 4 from hk)]
  have be1 : be S e (t + 1) * al S e (se S t) ≤ be S (e + 1) t := by rw [be, if_neg g0, if_neg g9, if_pos (show kd S t = 3 ∨ kd S t = 4 from hk)]; exact Nat.le_max_right _ _
  have lvT : ∀ {C R : kM}, nd S t C R → lv S C R e (t + 1) → (gp R (lMa 39) t = 1 → lv S C R e (se S t) ∧ ∀ c, c < wd S (t + 1) → gp R (lMa 29) (t * 12 + c) = gp C (lRw (t + 1)) c) → lv S C R (e + 1) t := by
    intro C R z1 z2 z3
    rw [lv]
    exact ⟨z1, fun z => by rcases z with z | z | z | z; exact absurd z.1 k1; exact absurd z g2; exact absurd z g6; exact absurd z g8, fun z => absurd z g79, fun _ => ⟨z2, z3⟩, fun z => absurd z g5⟩
  intro P
  induction P using Nat.strongRecOn with
  | ind P ihP =>
  intro q f C R hP hq hC hR hL hF
  have c3 := hC.2.2.1 t ht
  have hT := hC.1
  have hL0 := hL
  rw [lv] at hL
  obtain ⟨hnd, -, -, hL3, -⟩ := hL
  obtain ⟨lvf, hL4⟩ := hL3 hk
  have j4 := hnd.2.2.2.1 hk
  have e56 : F_56_2 T (F_49r T E) (some t) (nI d) (nI q) C = kAg (if gp R (lMa 39) t = 0 then (kBd (F_49r T E (some (t + 1)) (nI (d + 1)) C) (fun r5 M6 => if r5 = 1 then (kBd (F_48r T 12 (gq (sp M6 (lTm t) 13 1) (lTm t) 8) (nI (d + 1)) (sp M6 (lTm t) 13 1)) (fun r10 M11 => F_56_53 T (F_49r T E) t (nI d) (nI q) M11)) else (some (.inr ((r5, M6)))))) else (F_56_53 T (F_49r T E) t (nI d) (nI q) C)) (fun w : Int32 × kM => F_56_2 T (F_49r T E) (some t) (nI d) w.1 w.2) := by
    rw [F_56_2_eq]
    unfold B_56_2
    rw [if_neg (by simp (disch := omega) only [pn_mulL, pn_addL, pn_addR, pn_ltL, pn_ltR, pn_leL, pn_leR, pn_eqL, pn_eqR, pn_subL, pn_z, pn_add, pn_mul, pn_nat, pn_inj, pn_lt, pn_le, pn_neg, kGx_nI, kGx_L]; omega), kOpt_s, lv_tm (by omega), kGd_t, j4, c3.2.2.2.2.2.2.1 k0, pn_addL]
  -- what comes of the second half
  have fin : ∀ {f2 : Nat} {C2 R2 : kM}, sC T S n C2 → sR S n R2 → lv S C2 R2 (e + 1) t → gp R2 (lMa 39) t = 1 → fu C2 R2 f2 → frC t (en S t) C C2 → frR t (en S t) R R2 → f2 ≤ f → gp C2 lRu 1 + nI f2 = gp C lRu 1 + nI f → Lp T fI (ak R t) = Lp T fI (ak R2 (se S t)) → mM S e t R2 f2 ≤ mM S e t R f → pA S R2 (e + 1) t + be S (e + 1) t * f2 ≤ pA S R (e + 1) t + be S (e + 1) t * f →
      ∃ a C' R' f', kAg (F_56_53 T (F_49r T E) t (nI d) (nI q) C2) (fun w : Int32 × kM => F_56_2 T (F_49r T E) (some t) (nI d) w.1 w.2) = some (nI a, C') ∧ pst T S n fI (e + 1) t f C R a C' R' f' := by
    intro f2 C2 R2 a1 a2 a3 a4 a5 a6 a7 a8 a9 a10 a11 a12
    rcases pair_second (q := q) hS ht hk ih2 f2 C2 R2 a1 a2 a3 a4 a5 with ⟨C', R', f', e', x1, x2, x3, x4, x5, x6, x7, x8, x9, x10⟩ | ⟨a, C', R', f', e', x1, x2, x3, x4, x5, x6, post⟩
    · rw [e', kAg_l]
      obtain ⟨a, C3, R3, f3, e3, y1, y2, y3, y4, y5, y6, post⟩ := ihP (mM S e t R' f') (by omega) (q + 1) f' C' R' (Nat.le_refl _) (by omega) x2 (sR_fr x3 a2) x8 x5
      refine ⟨a, C3, R3, f3, e3, ?_, y2, ?_, by omega, y5, by rw [y6, x6, a9], ?_⟩
      · exact frC_trans (frC_trans (t := t) (e := en S t) a6 x1 (by omega) (by omega) (by omega) (by omega)) y1 (by omega) (by omega) (by omega) (by omega)
      · exact frR_trans (frR_trans (t := t) (e := en S t) a7 x3 (by omega) (by omega) (by omega) (by omega)) y3 (by omega) (by omega) (by omega) (by omega)
      · rcases post with ⟨rfl, z1, z2, z3, z4⟩ | ⟨rfl, z1⟩ | ⟨rfl, s, z1, z2, z3⟩ | ⟨rfl, z1⟩
        · exact Or.inl ⟨rfl, by rw [a10, x7, z1], z2, z3, by omega⟩
        · exact Or.inr (Or.inl ⟨rfl, by rw [a10, x7, z1]⟩)
        · exact Or.inr (Or.inr (Or.inl ⟨rfl, s, by rw [a10, x7, z1], z2, z3⟩))
        · exact Or.inr (Or.inr (Or.inr ⟨rfl, by rw [a10, x7, z1]⟩))
    · rw [e', kAg_r]
      refine ⟨a, C', R', f', rfl, frC_trans a6 x1 (by omega) (by omega) (by omega) (by omega), x2, frR_trans a7 x3 (by omega) (by omega) (by omega) (by omega), by omega, x5, by rw [x6, a9], ?_⟩
      rcases post with ⟨rfl, z1, z2, z3, z4⟩ | ⟨rfl, s, z1, z2, z3⟩ | ⟨rfl, z1⟩
      · exact Or.inl ⟨rfl, by rw [a10, z1], z2, z3, by omega⟩
      · exact Or.inr (Or.inr (Or.inl ⟨rfl, s, by rw [a10, z1], z2, z3⟩))
      · exact Or.inr (Or.inr (Or.inr ⟨rfl, by rw [a10, z1]⟩))
  rcases hnd.2.2.2.2.2.2.1 with l0 | l0
  · rw [if_pos l0] at e56
    have hp : pas S R t := ⟨k0, hx, fun z => absurd z g8, fun _ _ _ _ => l0⟩
    have lp0 := lp_pas (T := T) (fI := fI) hS hR ht hp
    obtain ⟨a, C1, R1, f1, e1, fc, sc1, fr, ff, fu1, tk, post⟩ := ih1 f C R hC hR lvf hF
    rw [e1, kBd_s] at e56
    have sR1 := sR_fr fr hR
    have J1 := nd_child hS ht (by omega) C R C1 R1 fc fr hnd
    have rv1 := fr.2.2.2 t (by omega)
    have r39 : gp R1 (lMa 39) t = 0 := by rw [rv1.2.2.1]; exact l0
    have fc' : frC t (en S t) C C1 := frC_trans fc (frC_refl t t C1) (by omega) (by omega) (by omega) (by omega)
    have fr' : frR t (en S t) R R1 := frR_trans fr (frR_refl t t R1) (by omega) (by omega) (by omega) (by omega)
    rcases post with ⟨rfl, l1, lv1, rw1, pot1⟩ | ⟨rfl, l1⟩ | ⟨rfl, s, l1, su1, lv1⟩ | ⟨rfl, l1⟩
    · have fcx : frC t t C1 (sp C1 (lTm t) 13 1) := frC_sp (by omega)
      have scx : sC T S n (sp C1 (lTm t) 13 1) := sC_tm (by omega) sc1
      obtain ⟨C2, e2, fc2, sc2, ca2, ua2⟩ := cl_anew (T := T) hS 12 (se S t) (d + 1) (sp C1 (lTm t) 13 1) b3.2.1 (by omega) (by omega) scx
      rw [if_pos n11, (scx.2.2.1 t ht).2.2.2.2.2.2.2.1 hbn, e2, kBd_s] at e56
      rw [e56]
      obtain ⟨M', rc, hA⟩ := rc_first (T := T) (M := tl R1 (t + 1) 1) hS (sR_fr (fr_tl (t := 0) (e := 0)) sR1) ht hk
      have lp := lp_tl1 (T := T) (f := fI) (M := R1) hS sR1 (by omega) b1.2.1 (by omega) (by rw [b1.2.2.1]; exact rc)
      rw [if_neg (by decide)] at lp
      have frx : frR t t R1 (sp (sa (tl R1 (t + 1) 1) (lMa 29) (fl (gp (tl R1 (t + 1) 1) (lMa 29)) (t * 12) (wd S (t + 1)) (fun c => gp (tl R1 (t + 1) 1) (lMa 28) ((t + 1) * 12 + c)))) (lMa 39) t 1) := by
        refine frR_trans (t1 := t) (e1 := t) (t2 := t) (e2 := t) ?_ (frR_mp (by omega) (by omega) (by omega)) (by omega) (by omega) (by omega) (by omega)
        exact frR_trans (t1 := t) (e1 := t) (t2 := t) (e2 := t) fr_tl (frR_mr (by omega) (fun i hi => fl_out (by omega))) (by omega) (by omega) (by omega) (by omega)
      have frA := an_fr hA
      have frA' : frR t (en S t) R1 M' := frR_trans frx frA (by omega) (by omega) (by omega) (by omega)
      have q39 : gp M' (lMa 39) t = 1 := by rw [hA.2.2 39 (by omega) t, if_neg (by omega)]; simp (disch := omega) only [gp_ne, gpa_ne, gp_sp, gp_sa, upd_eq, upd_ne, gq_sp, gq_sa]
      have sRM : sR S n M' := sR_fr frA' sR1
      have lvf2 : lv S C2 M' e (t + 1) := by
        refine lv_fr hS b1.2.1 fc2 frA (by omega) (by omega) ?_
        exact lv_fr hS b1.2.1 fcx frx (by omega) (by omega) lv1
      have pAf2 : pA S M' e (t + 1) = pA S R1 e (t + 1) := by
        rw [pA_fr hS b1.2.1 frA (by omega), pA_fr hS b1.2.1 frx (by omega)]
      have fresh := lv_fresh (C := C2) (R := M') hS e (se S t) b3.2.1 (by omega) (fun k a b => ⟨ca2 k a b, by rw [hA.2.2 26 (by omega) k, if_pos (by omega)], by rw [hA.2.2 38 (by omega) k, if_pos (by omega)], by rw [hA.2.2 39 (by omega) k, if_pos (by omega)]⟩)
      have cvt := cvE_fr (k := t) fc2 (by omega)
      have ru2 : gp C2 lRu = gp C1 lRu := by
        rw [ua2]; simp (disch := omega) only [gp_ne, gpa_ne, gp_sp, gp_sa, upd_eq, upd_ne, gq_sp, gq_sa]
      have l25 : gp M' lMo 25 = gp R1 lMo 25 := by rw [hA.2.1 lMo (by simp) (by simp) (by simp)]; simp (disch := omega) only [gp_ne, gpa_ne, gp_sp, gp_sa, upd_eq, upd_ne, gq_sp, gq_sa]; rfl
      have fu2 : fu C2 M' f1 := ⟨by rw [ru2]; exact fu1.1, by rw [l25]; exact fu1.2.1, fu1.2.2⟩
      have nd2 : nd S t C2 M' := by
        refine ⟨fun z => absurd z k0, fun z => absurd z gx, fun z => absurd z g89, fun _ => ?_, fun z => absurd z g5, fun z => absurd z g79, ?_, fun z => absurd z g7, fun z => absurd z g67⟩
        · rw [q39, cvt 15 (by omega) (by omega)]; simp (disch := omega) only [gp_ne, gpa_ne, gp_sp, gp_sa, upd_eq, upd_ne, gq_sp, gq_sa]
        · rw [q39]; exact Or.inr rfl
      have half2 : ∀ c, c < wd S (t + 1) → gp M' (lMa 29) (t * 12 + c) = gp C2 (lRw (t + 1)) c := by
        intro c hc
        have cvf := cvE_fr (k := t + 1) fc2 (by omega)
        rw [hA.2.1 (lMa 29) (by simp) (by simp) (by simp), cvf 17 (by omega) (by omega)]
        simp (disch := omega) only [gp_ne, gpa_ne, gp_sp, gp_sa, upd_eq, upd_ne, gq_sp, gq_sa]
        rw [fl_in hc]
        exact (rw1 c hc).symm
      have n39 : ¬ gp M' (lMa 39) t = 0 := by rw [q39]; decide
      have pm := pot_mul (al := al S e (se S t)) pot1 ff be1
      have pot2 : pA S M' (e + 1) t + be S (e + 1) t * f1 ≤ pA S R (e + 1) t + be S (e + 1) t * f := by
        rw [pe M', pe R, if_pos l0, if_neg n39, pAf2, fresh.2]
        omega
      refine fin sc2 sRM (lvT nd2 lvf2 (fun _ => ⟨fresh.1, half2⟩)) q39 fu2 ?_ ?_ ff (by rw [ru2]; exact tk) (by rw [lp0, l1, lp]) ?_ pot2
      · exact frC_trans (frC_trans (t := t) (e := en S t) fc' fcx (by omega) (by omega) (by omega) (by omega)) fc2 (by omega) (by omega) (by omega) (by omega)
      · exact frR_trans fr' frA' (by omega) (by omega) (by omega) (by omega)
      · unfold mM
        rw [if_pos l0, if_neg n39, pAf2]
        omega
    · rw [if_neg (by decide), kAg_r] at e56
      have h4 : kd S t ≤ 4 := by have := hbn.2; omega
      have hne : t + 1 ≠ se S t := by omega
      have hre : kd S t = 1 ∨ kd S t = 2 ∨ kd S t = 6 ∨ kd S t = 8 ∨ (3 ≤ kd S t ∧ kd S t ≤ 4 ∧ t + 1 ≠ se S t) ∨ (kd S t = 5 ∧ t + 1 ≠ t + 1) := Or.inr (Or.inr (Or.inr (Or.inr (Or.inl ⟨hbn.1, h4, hne⟩))))
      have re := re_pass (T := T) (a := t + 1) (M := tl R1 (t + 1) 0) hS (sR_fr (fr_tl (t := 0) (e := 0)) sR1) ht k0 b1.2.1 hre
      have lp := lp_tl0 (T := T) (f := fI) (M := R1) hS sR1 (by omega) b1.2.1 (by omega) (by rw [b1.2.2.1]; exact re)
      exact ⟨0, C1, R1, f1, e56, fc', sc1, fr', ff, fu1, tk, Or.inr (Or.inl ⟨rfl, by rw [lp0, l1, lp, tl_tl]⟩)⟩
    · rw [if_neg (by decide), kAg_r] at e56
      exact ⟨2, C1, R1, f1, e56, fc', sc1, fr', ff, fu1, tk, Or.inr (Or.inr (Or.inl ⟨rfl, s, by rw [lp0, l1], Or.inr (Or.inl ⟨⟨k0, hx, fun z => absurd z g8, fun _ _ _ _ => r39⟩, su1⟩), lvT J1 lv1 (fun z => absurd (z.symm.trans r39) (by decide))⟩))⟩
    · rw [if_neg (by decide), kAg_r] at e56
      exact ⟨3, C1, R1, f1, e56, fc', sc1, fr', ff, fu1, tk, Or.inr (Or.inr (Or.inr ⟨rfl, by rw [lp0, l1]⟩))⟩
  · rw [if_neg (by rw [l0]; decide)] at e56
    rw [e56]
    exact fin hC hR hL0 l0 hF (frC_refl _ _ _) (frR_refl _ _ _) (Nat.le_refl _) rfl (lp_sec hS hR ht hbn l0) (Nat.le_refl _) (Nat.le_refl _)
