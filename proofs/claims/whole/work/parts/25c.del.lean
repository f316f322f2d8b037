/-- how many are so -/
def cn (p : Nat → Bool) : Nat → Nat → Nat
  | 0, _ => 0
  | m + 1, k => cond (p k) 1 0 + cn p m (k + 1)
set_option maxHeartbeats 4000000 in
theorem cn_le {p : Nat → Bool} : ∀ m k, cn p m k ≤ m
  | 0, _ => Nat.le_refl _
  | m + 1, k => by
    rw [cn]
    have := cn_le (p := p) m (k + 1)
    cases p k
    · rw [cond_false]; omega
    · rw [cond_true]; omega
set_option maxHeartbeats 4000000 in
theorem cn_congr {p q : Nat → Bool} : ∀ m k, (∀ i, k ≤ i → i < k + m → p i = q i) → cn p m k = cn q m k
  | 0, _, _ => rfl
  | m + 1, k, h => by rw [cn, cn, h k (by omega) (by omega), cn_congr m (k + 1) (fun i a b => h i (by omega) (by omega))]
/-- the rows that stay: how many of the first k, and which -/
def slc (p : Nat → Bool) : Nat → Nat × (Nat → Nat)
  | 0 => (0, fun i => i)
  | k + 1 => cond (p k) (slc p k) ((slc p k).1 + 1, fun i => if i = (slc p k).1 then k else (slc p k).2 i)
set_option maxHeartbeats 4000000 in
theorem slc_le {p : Nat → Bool} : ∀ k, (slc p k).1 ≤ k ∧ ∀ i, i < (slc p k).1 → (slc p k).2 i < k
  | 0 => ⟨Nat.le_refl _, fun i h => absurd h (Nat.not_lt_zero _)⟩
  | k + 1 => by
    have ih := slc_le (p := p) k
    rw [slc]
    cases p k
    · rw [cond_false]
      refine ⟨by show (slc p k).1 + 1 ≤ k + 1; omega, fun i hi => ?_⟩
      show (if i = (slc p k).1 then k else (slc p k).2 i) < k + 1
      have hi : i < (slc p k).1 + 1 := hi
      by_cases q : i = (slc p k).1
      · rw [if_pos q]; omega
      · rw [if_neg q]; have := ih.2 i (by omega); omega
    · rw [cond_true]
      exact ⟨by omega, fun i hi => by have := ih.2 i hi; omega⟩
set_option maxHeartbeats 4000000 in
theorem slc_congr {p q : Nat → Bool} : ∀ k, (∀ i, i < k → p i = q i) → slc p k = slc q k
  | 0, _ => rfl
  | k + 1, h => by rw [slc, slc, slc_congr k (fun i hi => h i (by omega)), h k (by omega)]
set_option maxHeartbeats 4000000 in
theorem fill2 {β : Type} {G : Nat → kM → Option β} {K : kM → Option β} {M : kM} {l : kLb} {d w : Nat} {src : Nat → Int32}
    (h1 : ∀ f c, c < w → (∀ j, j < d ∨ d + c ≤ j → f j = gp M l j) → G c (sa M l f) = G (c + 1) (sa M l (upd f (d + c) (src c))))
    (h2 : ∀ f, G w (sa M l f) = K (sa M l f)) : G 0 M = K (sa M l (fl (gp M l) d w src)) := by
  have key : ∀ n c, c + n = w → G c (sa M l (fl (gp M l) d c src)) = K (sa M l (fl (gp M l) d w src)) := by
    intro n
    induction n with
    | zero => intro c e; obtain rfl : c = w := by omega
              exact h2 _
    | succ n ih =>
      intro c e
      rw [h1 _ c (by omega) (fun j hj => fl_out (by omega)), fl_upd]
      exact ih (c + 1) (by omega)
  have := key w 0 (by omega)
  rwa [show fl (gp M l) d 0 src = gp M l from funext fun j => by unfold fl; rw [if_neg (by omega)], sa_id] at this
abbrev cp (M : kM) (j w c : Nat) (v : Int32) : Nat → Bool := fun k => decide (gp M (lTc j) (k * w + c) = v)
abbrev rp (M : kM) (j c : Nat) (v : Int32) : Nat → Bool := fun k => decide (gp M (lMa 5) ((j * 40 + k) * 6 + c) = v)
set_option maxHeartbeats 4000000 in
theorem cl_count {T : kT} {M : kM} {j w r c : Nat} {v : Int32} (hj : j < T.1) (hw : gp M (lTb j) 0 = nI w) (hr : gp M (lTb j) 4 = nI r) (hw6 : w ≤ 6) (hr4 : r ≤ 40) (hc : c < w) : ∀ m k a, k + m = r → F_76_5 T j (nI c) v (nI a) (nI k) M = some (nI (a + cn (cp M j w c v) m k), M) := by
  intro m
  induction m with
  | zero =>
    intro k a e
    rw [F_76_5_eq]
    unfold B_76_5
    rw [lv_tb hj, kGd_t, hr, if_pos (by rw [pn_le (by omega) (by omega)]; omega), kAg_r]; rfl
  | succ m ih =>
    intro k a e
    rw [F_76_5_eq]
    unfold B_76_5
    rw [lv_tb hj, kGd_t, hr, if_neg (by rw [pn_le (by omega) (by omega)]; omega), tval hj hw hr hw6 hr4 (by omega) hc, kBd_s, cn]
    by_cases q : gp M (lTc j) (k * w + c) = v
    · rw [if_pos q, kAg_l, pn_addL, pn_addL]
      show F_76_5 T j (nI c) v (nI (a + 1)) (nI (k + 1)) M = _
      rw [ih (k + 1) (a + 1) (by omega), show cp M j w c v k = true from decide_eq_true q, cond_true, Nat.add_assoc]
    · rw [if_neg q, kAg_l, pn_addL]
      show F_76_5 T j (nI c) v (nI a) (nI (k + 1)) M = _
      rw [ih (k + 1) a (by omega), show cp M j w c v k = false from decide_eq_false q, cond_false, Nat.zero_add]
set_option maxHeartbeats 4000000 in
theorem rf_count {T : kT} {M : kM} {j r c : Nat} {v : Int32} (hj : j < 6) (hr : gp M (lMa 4) j = nI r) (hr4 : r ≤ 40) (hc : c < 6) : ∀ m k a, k + m = r → F_104_6 T (nI j) (nI c) v (nI a) (nI k) M = some (nI (a + cn (rp M j c v) m k), M) := by
  intro m
  induction m with
  | zero =>
    intro k a e
    rw [F_104_6_eq]
    unfold B_104_6
    rw [kGx_nI hj (by omega), pn_nat (by omega), hr, if_pos (by rw [pn_le (by omega) (by omega)]; omega), kAg_r]; rfl
  | succ m ih =>
    intro k a e
    rw [F_104_6_eq]
    unfold B_104_6 F_99
    rw [kGx_nI hj (by omega), pn_nat (by omega), hr, if_neg (by rw [pn_le (by omega) (by omega)]; omega), kBd_s, pn_mulL, pn_add, pn_mulL, pn_add, kGx_nI (by omega) (by omega), pn_nat (by omega), cn]
    by_cases q : gp M (lMa 5) ((j * 40 + k) * 6 + c) = v
    · rw [if_pos q, kAg_l, pn_addL, pn_addL]
      show F_104_6 T (nI j) (nI c) v (nI (a + 1)) (nI (k + 1)) M = _
      rw [ih (k + 1) (a + 1) (by omega), show rp M j c v k = true from decide_eq_true q, cond_true, Nat.add_assoc]
    · rw [if_neg q, kAg_l, pn_addL]
      show F_104_6 T (nI j) (nI c) v (nI a) (nI (k + 1)) M = _
      rw [ih (k + 1) a (by omega), show rp M j c v k = false from decide_eq_false q, cond_false, Nat.zero_add]
set_option maxHeartbeats 4000000 in
theorem cl_remove {T : kT} {M : kM} {j w r c : Nat} {v : Int32} (hj : j < T.1) (hw : gp M (lTb j) 0 = nI w) (hr : gp M (lTb j) 4 = nI r) (hw1 : 1 ≤ w) (hw6 : w ≤ 6) (hr4 : r ≤ 40) (hc : c < w) : ∀ m k f, k + m = r →
    (∀ i d, i < (slc (cp M j w c v) k).1 → d < w → f (i * w + d) = gp M (lTc j) ((slc (cp M j w c v) k).2 i * w + d)) → (∀ x, k * w ≤ x → f x = gp M (lTc j) x) →
    ∃ f', F_78_5 T j (nI c) v (nI (slc (cp M j w c v) k).1) (nI k) (sa M (lTc j) f) = some ((), sp (sa M (lTc j) f') (lTb j) 4 (nI (slc (cp M j w c v) r).1)) ∧ ∀ i d, i < (slc (cp M j w c v) r).1 → d < w → f' (i * w + d) = gp M (lTc j) ((slc (cp M j w c v) r).2 i * w + d) := by
  intro m
  induction m with
  | zero =>
    intro k f e h1 h2
    obtain rfl : k = r := by omega
    refine ⟨f, ?_, h1⟩
    rw [F_78_5_eq]
    unfold B_78_5
    rw [lv_tb hj, kGd_t, show gp (sa M (lTc j) f) (lTb j) 4 = nI k by simp (disch := omega) only [gp_ne, gpa_ne, gp_sp, gp_sa, upd_eq, upd_ne, gq_sp, gq_sa]; exact hr, if_pos (by rw [pn_le (by omega) (by omega)]; omega), kAg_r]
  | succ m ih =>
    intro k f e h1 h2
    have sl := slc_le (p := cp M j w c v) k
    have hr' : gp (sa M (lTc j) f) (lTb j) 4 = nI r := by simp (disch := omega) only [gp_ne, gpa_ne, gp_sp, gp_sa, upd_eq, upd_ne, gq_sp, gq_sa]; exact hr
    have hw' : gp (sa M (lTc j) f) (lTb j) 0 = nI w := by simp (disch := omega) only [gp_ne, gpa_ne, gp_sp, gp_sa, upd_eq, upd_ne, gq_sp, gq_sa]; exact hw
    have val : gp (sa M (lTc j) f) (lTc j) (k * w + c) = gp M (lTc j) (k * w + c) := by rw [gp_sa]; exact h2 _ (by omega)
    have lt1 := mul_lt (w := w) (show k < r by omega)
    have rw40 : r * w ≤ 40 * 6 := Nat.mul_le_mul hr4 hw6
    have lk : (slc (cp M j w c v) k).1 * w ≤ k * w := Nat.mul_le_mul_right w sl.1
    rw [F_78_5_eq]
    unfold B_78_5
    rw [lv_tb hj, kGd_t, hr', if_neg (by rw [pn_le (by omega) (by omega)]; omega), tval hj hw' hr' hw6 hr4 (by omega) hc, kBd_s, val]
    by_cases q : gp M (lTc j) (k * w + c) = v
    · have pk : cp M j w c v k = true := decide_eq_true q
      have es : slc (cp M j w c v) (k + 1) = slc (cp M j w c v) k := by rw [slc, pk, cond_true]
      rw [if_pos q, kAg_l, pn_addL, ← es]
      refine ih (k + 1) f (by omega) (by rw [es]; exact h1) (fun x hx => h2 x ?_)
      rw [Nat.add_mul, Nat.one_mul] at hx; omega
    · have pk : cp M j w c v k = false := decide_eq_false q
      have es : slc (cp M j w c v) (k + 1) = ((slc (cp M j w c v) k).1 + 1, fun i => if i = (slc (cp M j w c v) k).1 then k else (slc (cp M j w c v) k).2 i) := by rw [slc, pk, cond_false]
      rw [if_neg q, hw', pn_mul, pn_mul, kCk_t (by omega) (by omega) (by omega) (by omega), kGd_t, kAg_l, pn_addL, pn_addL, cpy_fl, sa_sa, gp_sa, pn_nat (by omega), pn_nat (by omega), pn_nat (by omega)]
      have ih' := ih (k + 1) (fl f ((slc (cp M j w c v) k).1 * w) w (fun d => f (k * w + d))) (by omega)
      rw [es] at ih'
      refine ih' (fun i d hi hd => ?_) (fun x hx => ?_)
      · have hi : i < (slc (cp M j w c v) k).1 + 1 := hi
        show _ = gp M (lTc j) ((if i = (slc (cp M j w c v) k).1 then k else (slc (cp M j w c v) k).2 i) * w + d)
        by_cases qi : i = (slc (cp M j w c v) k).1
        · rw [if_pos qi, qi, fl_in hd]
          exact h2 _ (by omega)
        · have lt := mul_lt (w := w) (show i < (slc (cp M j w c v) k).1 by omega)
          rw [if_neg qi, fl_out (by omega)]
          exact h1 i d (by omega) hd
      · rw [Nat.add_mul, Nat.one_mul] at hx
        rw [fl_out (by omega)]
        exact h2 x (by omega)
set_option maxHeartbeats 4000000 in
theorem rf_remove {T : kT} {M : kM} {j r c n : Nat} {v : Int32} (hj : j < 6) (hr : gp M (lMa 4) j = nI r) (hr4 : r ≤ 40) (hc : c < 6) : ∀ m k f, k + m = r →
    (∀ i d, i < (slc (rp M j c v) k).1 → d < 6 → f ((j * 40 + i) * 6 + d) = gp M (lMa 5) ((j * 40 + (slc (rp M j c v) k).2 i) * 6 + d)) → (∀ x, (j * 40 + k) * 6 ≤ x → f x = gp M (lMa 5) x) → (∀ x, x < j * 40 * 6 → f x = gp M (lMa 5) x) →
    ∃ f', F_105_70 T (nI j) (nI c) v (nI n) (nI (slc (rp M j c v) k).1) (nI k) (sa M (lMa 5) f) = some (nI n, sp (sp (sp (sa M (lMa 5) f') (lMa 4) j (nI (slc (rp M j c v) r).1)) lMo 8 (gp M lMo 8 + nI n)) lMo 15 0) ∧ (∀ i d, i < (slc (rp M j c v) r).1 → d < 6 → f' ((j * 40 + i) * 6 + d) = gp M (lMa 5) ((j * 40 + (slc (rp M j c v) r).2 i) * 6 + d)) ∧ (∀ x, (j * 40 + 40) * 6 ≤ x → f' x = gp M (lMa 5) x) ∧ (∀ x, x < j * 40 * 6 → f' x = gp M (lMa 5) x) := by
  intro m
  induction m with
  | zero =>
    intro k f e h1 h2 h3
    obtain rfl : k = r := by omega
    refine ⟨f, ?_, h1, fun x hx => h2 x (by omega), h3⟩
    rw [F_105_70_eq]
    unfold B_105_70
    rw [kGx_nI hj (by omega), pn_nat (by omega), show gp (sa M (lMa 5) f) (lMa 4) j = nI k by simp (disch := omega) only [gp_ne, gpa_ne, gp_sp, gp_sa, upd_eq, upd_ne, gq_sp, gq_sa]; exact hr, if_pos (by rw [pn_le (by omega) (by omega)]; omega), kGx_nI hj (by omega), kAg_r]
    simp (disch := omega) only [gp_ne, gpa_ne, gp_sp, gp_sa, upd_eq, upd_ne, gq_sp, gq_sa]
  | succ m ih =>
    intro k f e h1 h2 h3
    have sl := slc_le (p := rp M j c v) k
    have hr' : gp (sa M (lMa 5) f) (lMa 4) j = nI r := by simp (disch := omega) only [gp_ne, gpa_ne, gp_sp, gp_sa, upd_eq, upd_ne, gq_sp, gq_sa]; exact hr
    have val : gp (sa M (lMa 5) f) (lMa 5) ((j * 40 + k) * 6 + c) = gp M (lMa 5) ((j * 40 + k) * 6 + c) := by rw [gp_sa]; exact h2 _ (by omega)
    rw [F_105_70_eq]
    unfold B_105_70 F_99
    rw [kGx_nI hj (by omega), pn_nat (by omega), hr', if_neg (by rw [pn_le (by omega) (by omega)]; omega), kBd_s, pn_mulL, pn_add, pn_mulL, pn_add, kGx_nI (by omega) (by omega), pn_nat (by omega), val]
    by_cases q : gp M (lMa 5) ((j * 40 + k) * 6 + c) = v
    · have pk : rp M j c v k = true := decide_eq_true q
      have es : slc (rp M j c v) (k + 1) = slc (rp M j c v) k := by rw [slc, pk, cond_true]
      rw [if_pos q, kAg_l, pn_addL, ← es]
      exact ih (k + 1) f (by omega) (by rw [es]; exact h1) (fun x hx => h2 x (by omega)) h3
    · have pk : rp M j c v k = false := decide_eq_false q
      have es : slc (rp M j c v) (k + 1) = ((slc (rp M j c v) k).1 + 1, fun i => if i = (slc (rp M j c v) k).1 then k else (slc (rp M j c v) k).2 i) := by rw [slc, pk, cond_false]
      have inner : F_105_103 T (nI j) (nI c) v (nI n) (nI (slc (rp M j c v) k).1) (nI k) 0 (sa M (lMa 5) f) = some (.inl (nI ((slc (rp M j c v) k).1 + 1), nI (k + 1), sa (sa M (lMa 5) f) (lMa 5) (fl (gp (sa M (lMa 5) f) (lMa 5)) ((j * 40 + (slc (rp M j c v) k).1) * 6) 6 (fun d => f ((j * 40 + k) * 6 + d))))) := by
        refine fill2 (G := fun d X => F_105_103 T (nI j) (nI c) v (nI n) (nI (slc (rp M j c v) k).1) (nI k) (nI d) X) (K := fun X => some (.inl (nI ((slc (rp M j c v) k).1 + 1), nI (k + 1), X))) (M := sa M (lMa 5) f) (l := lMa 5) (d := (j * 40 + (slc (rp M j c v) k).1) * 6) (w := 6) ?_ ?_
        · intro g d hd hg
          show F_105_103 T (nI j) (nI c) v (nI n) (nI (slc (rp M j c v) k).1) (nI k) (nI d) _ = F_105_103 T (nI j) (nI c) v (nI n) (nI (slc (rp M j c v) k).1) (nI k) (nI (d + 1)) _
          have gv := hg ((j * 40 + k) * 6 + d) (by omega)
          rw [gp_sa] at gv
          rw [F_105_103_eq]
          unfold B_105_103 F_99
          rw [if_neg (by rw [pn_leR _ (by omega) (by omega)]; omega), kBd_s, kBd_s, pn_mulL, pn_add, pn_mulL, pn_add, pn_add, pn_mulL, pn_add, kGx_nI (by omega) (by omega), kGx_nI (by omega) (by omega), pn_nat (by omega), pn_nat (by omega), kAg_l, pn_addL]
          unfold sp
          rw [sa_sa, gp_sa, gv]
        · intro g
          show F_105_103 T (nI j) (nI c) v (nI n) (nI (slc (rp M j c v) k).1) (nI k) (nI 6) _ = _
          rw [F_105_103_eq]
          unfold B_105_103
          rw [if_pos (by decide), kAg_r, pn_addL, pn_addL]
      rw [if_neg q, inner, kAg_l, sa_sa, gp_sa]
      have ih' := ih (k + 1) (fl f ((j * 40 + (slc (rp M j c v) k).1) * 6) 6 (fun d => f ((j * 40 + k) * 6 + d))) (by omega)
      rw [es] at ih'
      refine ih' (fun i d hi hd => ?_) (fun x hx => ?_) (fun x hx => ?_)
      · have hi : i < (slc (rp M j c v) k).1 + 1 := hi
        show _ = gp M (lMa 5) ((j * 40 + (if i = (slc (rp M j c v) k).1 then k else (slc (rp M j c v) k).2 i)) * 6 + d)
        by_cases qi : i = (slc (rp M j c v) k).1
        · rw [if_pos qi, qi, fl_in hd]
          exact h2 _ (by omega)
        · rw [if_neg qi, fl_out (by omega)]
          exact h1 i d (by omega) hd
      · rw [fl_out (by omega)]
        exact h2 x (by omega)
      · rw [fl_out (by omega)]
        exact h3 x hx
