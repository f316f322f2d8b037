/-! a step of the reference: its beginning and its ends -/
def tkn (M : kM) (fI : Int32) : kM := sp M lMo 24 ((gp M lMo 24 + fI) - gp M lMo 25)
set_option maxHeartbeats 4000000 in
theorem lq_2 {T : kT} {fI : Int32} {M : kM} : Lq T fI 2 M = some (2, tkn M fI) := by
  unfold Lq
  rw [F_140_59_eq]
  unfold B_140_59 F_140_190
  rw [if_pos (by decide), if_neg (by decide), if_neg (by decide), if_neg (by decide)]
  rfl
set_option maxHeartbeats 4000000 in
theorem lq_3 {T : kT} {fI : Int32} {M : kM} : Lq T fI 3 M = some (3, sp (tkn M fI) lMo 15 0) := by
  unfold Lq
  rw [F_140_59_eq]
  unfold B_140_59 F_140_185 F_140_190
  rw [if_pos (by decide), if_neg (by decide), if_pos (by decide), if_neg (by decide)]
  rfl
set_option maxHeartbeats 4000000 in
theorem lp_end0 {T : kT} {fI : Int32} {R : kM} : Lp T fI (tl R 0 0) = some (0, sp (tkn (tl R 0 0) fI) lMo 15 0) := by
  unfold Lp
  rw [F_140_59_eq]
  unfold B_140_59
  rw [if_neg (by decide), if_pos (show gp (tl R 0 0) lMo 36 = 0 from rfl), if_pos (show gp (tl R 0 0) lMo 35 = 0 from rfl), if_pos (show gp (tl R 0 0) lMo 37 = 0 from rfl), kAg_l]
  show F_140_59 T fI 0 (tl R 0 0) = _
  rw [F_140_59_eq]
  unfold B_140_59 F_140_185 F_140_190
  rw [if_pos (by decide), if_pos rfl, if_neg (by decide)]
  rfl
def ltM (S : kS) (R : kM) (fI : Int32) : kM := sa (sp (tkn (tl R 0 1) fI) lMo 31 (nI (wd S 0))) (lMa 30) (fl (gp R (lMa 30)) 0 (wd S 0) (fun c => gp R (lMa 28) c))
set_option maxHeartbeats 4000000 in
theorem lp_end1 {T : kT} {S : kS} {n : Nat} {fI : Int32} {R : kM} (hS : sOk S n) (h0 : 0 < n) (hR : sR S n R) : Lp T fI (tl R 0 1) = some (1, ltM S R fI) := by
  have hw := (nk hS h0).1.2.2.1
  have h3 := hR.1 0 h0
  unfold Lp
  rw [F_140_59_eq]
  unfold B_140_59
  rw [if_neg (by decide), if_pos (show gp (tl R 0 1) lMo 36 = 0 from rfl), if_pos (show gp (tl R 0 1) lMo 35 = 0 from rfl), if_neg (show ¬ gp (tl R 0 1) lMo 37 = 0 from fun z => absurd (show (1 : Int32) = 0 from z) (by decide)), kAg_l]
  show F_140_59 T fI 1 (tl R 0 1) = _
  rw [F_140_59_eq]
  unfold B_140_59 F_140_190
  rw [if_pos (by decide), if_neg (by decide), if_neg (by decide), if_pos rfl, kAg_f, kGx_L _ (by omega) (by omega), pn_z]
  have q21 : gp (sp (tl R 0 1) lMo 24 ((gp (tl R 0 1) lMo 24 + fI) - gp (tl R 0 1) lMo 25)) (lMa 21) 0 = nI (wd S 0) := h3.2.1
  show F_140_209 T 1 0 (sp (sp (tl R 0 1) lMo 24 ((gp (tl R 0 1) lMo 24 + fI) - gp (tl R 0 1) lMo 25)) lMo 31 (gp (sp (tl R 0 1) lMo 24 ((gp (tl R 0 1) lMo 24 + fI) - gp (tl R 0 1) lMo 25)) (lMa 21) 0)) = _
  rw [q21]
  refine fill (G := fun c M => F_140_209 T 1 (nI c) M) (K := fun M => some (1, M)) (M := sp (tkn (tl R 0 1) fI) lMo 31 (nI (wd S 0))) (l := lMa 30) (d := 0) (w := wd S 0) (src := fun c => gp R (lMa 28) c) ?_ ?_
  · intro f c hc hf
    show F_140_209 T 1 (nI c) _ = F_140_209 T 1 (nI (c + 1)) _
    rw [F_140_209_eq]
    unfold B_140_209
    have q31 : gp (sa (sp (tkn (tl R 0 1) fI) lMo 31 (nI (wd S 0))) (lMa 30) f) lMo 31 = nI (wd S 0) := by simp (disch := omega) only [gp_ne, gpa_ne, gp_sp, gp_sa, upd_eq, upd_ne, gq_sp, gq_sa]
    rw [q31]
    simp (disch := omega) only [pn_mulL, pn_addL, pn_addR, pn_ltL, pn_ltR, pn_leL, pn_leR, pn_eqL, pn_eqR, pn_subL, pn_z, pn_add, pn_mul, pn_nat, pn_inj, pn_lt, pn_le, pn_neg, kGx_nI, kGx_L]
    rw [if_neg (by omega), kAg_l]
    show F_140_209 T 1 (nI (c + 1)) (sa (sa (sp (tkn (tl R 0 1) fI) lMo 31 (nI (wd S 0))) (lMa 30) f) (lMa 30) (upd (gp (sa (sp (tkn (tl R 0 1) fI) lMo 31 (nI (wd S 0))) (lMa 30) f) (lMa 30)) c _)) = _
    rw [sa_sa, gp_sa, Nat.zero_add]
    rfl
  · intro f
    show F_140_209 T 1 (nI (wd S 0)) _ = _
    rw [F_140_209_eq]
    unfold B_140_209
    have q31 : gp (sa (sp (tkn (tl R 0 1) fI) lMo 31 (nI (wd S 0))) (lMa 30) f) lMo 31 = nI (wd S 0) := by simp (disch := omega) only [gp_ne, gpa_ne, gp_sp, gp_sa, upd_eq, upd_ne, gq_sp, gq_sa]
    rw [q31, if_pos (by simp (disch := omega) only [pn_mulL, pn_addL, pn_addR, pn_ltL, pn_ltR, pn_leL, pn_leR, pn_eqL, pn_eqR, pn_subL, pn_z, pn_add, pn_mul, pn_nat, pn_inj, pn_lt, pn_le, pn_neg, kGx_nI, kGx_L]; omega), kAg_r]
/-- the reference's part is the same but for what it threw -/
def xE (M X : kM) : Prop := (∀ j, gp X (lMa j) = gp M (lMa j)) ∧ ∀ k, k ≠ 0 → gp X lMo k = gp M lMo k
set_option maxHeartbeats 4000000 in
theorem susp_congr {S : kS} {n : Nat} {R R' : kM} (hS : sOk S n) (h : ∀ j k, gp R' (lMa j) k = gp R (lMa j) k) : ∀ e t s, susp S R e t s → susp S R' e t s := by
  intro e
  induction e with
  | zero => intro t s z; exact z
  | succ e ih =>
    intro t s z
    rw [susp] at z ⊢
    unfold pas at *
    rw [h, h]
    rcases z with z | z | z
    · exact Or.inl z
    · exact Or.inr (Or.inl ⟨z.1, ih _ _ z.2⟩)
    · exact Or.inr (Or.inr ⟨z.1, z.2.1, ih _ _ z.2.2⟩)
/-- what holds of a query that is prepared -/
def qS (T : kT) (S : kS) (n : Nat) (M : kM) : Prop := sOk S n ∧ sC T S n M ∧ sR S n M ∧ hg S 0 ≤ 9 ∧ 0 < n ∧ lv S M M 10 0 ∧ bl (gp M lMo 36) ∧ (gp M lMo 36 = 1 → ∃ s, gp M lMo 35 = nI s ∧ susp S M 10 0 s)
set_option maxHeartbeats 4000000 in
theorem step_run {T : kT} {S : kS} {n f : Nat} {M : kM} (hq : qS T S n M) (hf1 : 1 ≤ f) (hf5 : f ≤ 500) :
    ∃ a C', F_49r T 11 (some 0) 0 (sp M lRu 0 (nI f)) = some (nI a, C') ∧ frC 0 (en S 0) (sp M lRu 0 (nI f)) C' ∧ sC T S n C' ∧ ∀ X, xE M X → ∃ R' f', f' ≤ f ∧ gp R' lMo 25 = nI f' ∧ gp C' lRu 1 + nI f' = gp M lRu 1 + nI f ∧ frR 0 (en S 0) (sp (sp X lMo 0 0) lMo 25 (nI f)) R' ∧
      ((a = 1 ∧ F_140_28 T (nI f) 0 X = Lp T (nI f) (tl R' 0 1) ∧ lv S C' R' 10 0 ∧ ∀ c, c < wd S 0 → gp C' (lRw 0) c = gp R' (lMa 28) c) ∨
       (a = 0 ∧ F_140_28 T (nI f) 0 X = Lp T (nI f) (tl R' 0 0)) ∨
       (a = 2 ∧ ∃ s, F_140_28 T (nI f) 0 X = Lq T (nI f) 2 (ak R' s) ∧ susp S R' 10 0 s ∧ lv S C' R' 10 0) ∨
       (a = 3 ∧ F_140_28 T (nI f) 0 X = Lq T (nI f) 3 R')) := by
  obtain ⟨hS, hC, hR, hg0, hn0, hL, hb, hsu⟩ := hq
  have hC0 : sC T S n (sp M lRu 0 (nI f)) := sC_sp (by omega) hC
  have fcM : frC (n + 1) n M (sp M lRu 0 (nI f)) := frC_sp (by omega)
  have hen := (nk hS hn0).1
  -- from any reference's memory
  have main : ∀ X, xE M X → ∃ a C' R' f', F_49r T 11 (some 0) 0 (sp M lRu 0 (nI f)) = some (nI a, C') ∧ pst T S n (nI f) 10 0 f (sp M lRu 0 (nI f)) (sp (sp X lMo 0 0) lMo 25 (nI f)) a C' R' f' ∧ F_140_28 T (nI f) 0 X = Lp T (nI f) (ak (sp (sp X lMo 0 0) lMo 25 (nI f)) 0) := by
    intro X hX
    have rvX : ∀ k, rvE k M (sp (sp X lMo 0 0) lMo 25 (nI f)) := fun k => by
      refine ⟨?_, ?_, ?_, fun _ _ => ?_, fun _ _ => ?_, fun _ _ => ?_⟩ <;> simp (disch := omega) only [gp_ne, gpa_ne, gp_sp, gp_sa, upd_eq, upd_ne, gq_sp, gq_sa, hX.1]
    have sRX : sR S n (sp (sp X lMo 0 0) lMo 25 (nI f)) := by
      refine sR_mo (sR_mo ?_)
      unfold sR at *
      rw [hX.1, hX.1, hX.1, hX.1, hX.1, hX.1, hX.1, hX.1, hX.1, hX.1, hX.1]
      exact hR
    have lvX : lv S (sp M lRu 0 (nI f)) (sp (sp X lMo 0 0) lMo 25 (nI f)) 10 0 :=
      lv_congr hS 10 0 hn0 (fun k a b => ⟨cvE_fr fcM (by omega), rvX k⟩) hL
    have fuX : fu (sp M lRu 0 (nI f)) (sp (sp X lMo 0 0) lMo 25 (nI f)) f := ⟨by simp (disch := omega) only [gp_ne, gpa_ne, gp_sp, gp_sa, upd_eq, upd_ne, gq_sp, gq_sa], by simp (disch := omega) only [gp_ne, gpa_ne, gp_sp, gp_sa, upd_eq, upd_ne, gq_sp, gq_sa], hf5⟩
    obtain ⟨a, C', R', f', e1, post⟩ := ask_all (T := T) (fI := nI f) hS 10 11 0 0 hn0 (by omega) (by omega) (by omega) f _ _ hC0 sRX lvX fuX
    refine ⟨a, C', R', f', e1, post, ?_⟩
    unfold F_140_28
    have q0 : gp (sp X lMo 0 0) lMo 0 = 0 := by simp (disch := omega) only [gp_ne, gpa_ne, gp_sp, gp_sa, upd_eq, upd_ne, gq_sp, gq_sa]
    have q36 : gp (sp (sp X lMo 0 0) lMo 25 (nI f)) lMo 36 = gp M lMo 36 := by simp (disch := omega) only [gp_ne, gpa_ne, gp_sp, gp_sa, upd_eq, upd_ne, gq_sp, gq_sa]; exact hX.2 36 (by omega)
    have q35 : gp (sp (sp X lMo 0 0) lMo 25 (nI f)) lMo 35 = gp M lMo 35 := by simp (disch := omega) only [gp_ne, gpa_ne, gp_sp, gp_sa, upd_eq, upd_ne, gq_sp, gq_sa]; exact hX.2 35 (by omega)
    rw [q0, if_pos (by decide), q36]
    rcases hb with hb | hb
    · rw [if_pos hb]; rfl
    · rw [if_neg (by rw [hb]; decide)]
      obtain ⟨s, hs1, hs2⟩ := hsu hb
      have su : susp S (sp (sp X lMo 0 0) lMo 25 (nI f)) 10 0 s := susp_congr hS (fun j k => by simp (disch := omega) only [gp_ne, gpa_ne, gp_sp, gp_sa, upd_eq, upd_ne, gq_sp, gq_sa, hX.1]) 10 0 s hs2
      have run := susp_run (T := T) (fI := nI f) hS sRX 10 0 s hn0 su
      rw [run]
      have : ak (sp (sp X lMo 0 0) lMo 25 (nI f)) s = sp (sp X lMo 0 0) lMo 25 (nI f) := by
        unfold ak
        rw [← hs1, ← q35, sp_id, ← hb, ← q36, sp_id]
      rw [this]
  obtain ⟨a, C', R0, f0, e1, post0, -⟩ := main M ⟨fun _ => rfl, fun _ _ => rfl⟩
  refine ⟨a, C', e1, post0.1, post0.2.1, fun X hX => ?_⟩
  obtain ⟨a', C'', R', f', e2, post, lpX⟩ := main X hX
  have ee := e1.symm.trans e2
  have pr := Option.some.inj ee
  have ec : C' = C'' := congrArg Prod.snd pr
  have ea0 : nI a = nI a' := congrArg Prod.fst pr
  have a4 : a < 4 := by rcases post0.2.2.2.2.2.2 with ⟨h, -⟩ | ⟨h, -⟩ | ⟨h, -⟩ | ⟨h, -⟩ <;> omega
  have a4' : a' < 4 := by rcases post.2.2.2.2.2.2 with ⟨h, -⟩ | ⟨h, -⟩ | ⟨h, -⟩ | ⟨h, -⟩ <;> omega
  have ea : a = a' := by rwa [pn_inj (by omega) (by omega)] at ea0
  subst ec ea
  obtain ⟨x1, x2, x3, x4, x5, x6, x7⟩ := post
  refine ⟨R', f', x4, x5.2.1, ?_, x3, ?_⟩
  · rw [x6]; simp (disch := omega) only [gp_ne, gpa_ne, gp_sp, gp_sa, upd_eq, upd_ne, gq_sp, gq_sa]
  · rcases x7 with ⟨h, y1, y2, y3, y4⟩ | ⟨h, y1⟩ | ⟨h, s, y1, y2, y3⟩ | ⟨h, y1⟩
    · refine Or.inl ⟨h, by rw [lpX, y1], y2, fun c hc => ?_⟩
      have := y3 c hc
      rwa [Nat.zero_mul, Nat.zero_add] at this
    · exact Or.inr (Or.inl ⟨h, by rw [lpX, y1]⟩)
    · exact Or.inr (Or.inr (Or.inl ⟨h, s, by rw [lpX, y1], y2, y3⟩))
    · exact Or.inr (Or.inr (Or.inr ⟨h, by rw [lpX, y1]⟩))
