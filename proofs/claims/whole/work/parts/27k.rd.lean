section NW
variable {S : kS} {R : kM} {t k e n c o h s wcn p pp sn x d : Nat} {pk : Nat → Nat} {v fl : Int32}
set_option maxHeartbeats 4000000 in
theorem nw_t (i : Nat) (hi : i ≠ 11 ∧ i ≠ 12 ∧ i ≠ 17) : (nwSt S R t k e n c o h s wcn p pp sn x d pk v fl).1 i t = rowF k e n c o h s wcn p pp sn x d pk i := if_pos ⟨rfl, hi⟩
set_option maxHeartbeats 4000000 in
theorem nw_o {k' : Nat} (i : Nat) (hk : k' ≠ t) : (nwSt S R t k e n c o h s wcn p pp sn x d pk v fl).1 i k' = S.1 i k' := if_neg (fun z => hk z.1)
set_option maxHeartbeats 4000000 in
theorem nw_b {k' : Nat} (i : Nat) (hi : i = 11 ∨ i = 12 ∨ i = 17) : (nwSt S R t k e n c o h s wcn p pp sn x d pk v fl).1 i k' = S.1 i k' := if_neg (fun z => by omega)
set_option maxHeartbeats 4000000 in
theorem nw_g (i y : Nat) (hi : i ≠ 1) : (nwSt S R t k e n c o h s wcn p pp sn x d pk v fl).2 i t y = rowG R p v fl i y := if_pos ⟨rfl, hi⟩
set_option maxHeartbeats 4000000 in
theorem nw_go {k' : Nat} (i y : Nat) (hk : k' ≠ t) : (nwSt S R t k e n c o h s wcn p pp sn x d pk v fl).2 i k' y = S.2 i k' y := if_neg (fun z => hk z.1)
set_option maxHeartbeats 4000000 in
theorem nw_td (i : Nat) (hi : i ≠ 4 ∨ fl = wW R (p + 4)) : td (nwSt S R t k e n c o h s wcn p pp sn x d pk v fl) t i = wW R (p + i) := by
  show (nwSt S R t k e n c o h s wcn p pp sn x d pk v fl).2 2 t i = _
  rw [nw_g _ _ (by decide)]
  unfold rowG
  rw [if_neg (by decide)]
  by_cases q : i = 4
  · rw [if_pos q, q]; rcases hi with z | z; exact absurd q z; exact z
  · rw [if_neg q]
set_option maxHeartbeats 4000000 in
theorem new_ok {N : Nat} (hk10 : k ≤ 10) (hn1 : 1 ≤ n) (hn12 : n ≤ 12) (hte : t ≤ e) (hen : e + 1 = N) (how : p + owN k n ≤ 60) (hw0 : wW R p = nI k)
    (h0 : k = 0 → e = t ∧ wW R (p + 1) = nI s ∧ s < nt S ∧ n = tw S s ∧ wcn = 2)
    (h1 : k ≠ 0 → 9 - (d + 1) < 9 - d ∧ t + 1 < N ∧ hg S (t + 1) = 9 - (d + 1) ∧ par S (t + 1) = t ∧ en S (t + 1) ≤ e ∧ t + 1 ≤ en S (t + 1))
    (hu : k ≠ 0 → ¬ (3 ≤ k ∧ k ≤ 5) → e = en S (t + 1) ∧ wcn = owN k n + wc S (t + 1))
    (hb : 3 ≤ k ∧ k ≤ 5 → sn = en S (t + 1) + 1 ∧ sn < N ∧ hg S sn = 9 - (d + 1) ∧ par S sn = t ∧ e = en S sn ∧ sn ≤ en S sn ∧ wcn = owN k n + wc S (t + 1) + wc S sn)
    (hwc : 2 ≤ wcn ∧ wcn ≤ 60 ∧ owN k n ≤ wcn)
    (k1 : k = 1 → wW R (p + 1) = nI c ∧ c < wd S (t + 1) ∧ n = wd S (t + 1) ∧ wW R (p + 2) = nI h ∧ h ≤ 5 ∧ wW R (p + 3) = v)
    (k2 : k = 2 → n ≤ 8 ∧ ∀ i, i < n → wW R (p + (2 + i)) = nI (pk i) ∧ pk i < wd S (t + 1))
    (k3 : k = 3 → n = wd S (t + 1) + wd S sn)
    (k4 : k = 4 → n = wd S (t + 1) + wd S sn ∧ wW R (p + 1) = nI c ∧ c < wd S (t + 1) ∧ wW R (p + 2) = nI o ∧ o < wd S sn)
    (k5 : k = 5 → n = wd S (t + 1) ∧ n = wd S sn) (k6 : k = 6 → n = wd S (t + 1))
    (k7 : k = 7 → n = wd S (t + 1) ∧ wW R (p + 1) = nI c ∧ c < wd S (t + 1) ∧ wW R (p + 2) = nI h ∧ h ≤ 1)
    (k8 : k = 8 → n = wd S (t + 1) ∧ wW R (p + 1) = v) (k9 : k = 9 → n = 1)
    (k10 : k = 10 → n = 2 ∧ wW R (p + 1) = nI c ∧ c < wd S (t + 1) ∧ wW R (p + 2) = nI h ∧ h ≤ 3 ∧ wW R (p + 3) = nI o ∧ o < wd S (t + 1))
    (hx : x = if k = 1 ∧ h = 0 ∧ kd S (t + 1) = 0 ∧ ¬ fl = 0 then 1 else 0) (hfl : k ≠ 1 → fl = wW R (p + 4)) :
    nOk (nwSt S R t k e n c o h s wcn p pp sn x d pk v fl) N t := by
  have a0 : kd (nwSt S R t k e n c o h s wcn p pp sn x d pk v fl) t = k := nw_t 0 (by decide)
  have a1 : en (nwSt S R t k e n c o h s wcn p pp sn x d pk v fl) t = e := nw_t 1 (by decide)
  have a2 : wd (nwSt S R t k e n c o h s wcn p pp sn x d pk v fl) t = n := nw_t 2 (by decide)
  have a3 : ch (nwSt S R t k e n c o h s wcn p pp sn x d pk v fl) t = c := nw_t 3 (by decide)
  have a4 : ot (nwSt S R t k e n c o h s wcn p pp sn x d pk v fl) t = o := nw_t 4 (by decide)
  have a5 : hw (nwSt S R t k e n c o h s wcn p pp sn x d pk v fl) t = h := nw_t 5 (by decide)
  have a6 : sc (nwSt S R t k e n c o h s wcn p pp sn x d pk v fl) t = s := nw_t 6 (by decide)
  have a7 : wc (nwSt S R t k e n c o h s wcn p pp sn x d pk v fl) t = wcn := nw_t 7 (by decide)
  have a8 : att (nwSt S R t k e n c o h s wcn p pp sn x d pk v fl) t = p := nw_t 8 (by decide)
  have a10 : se (nwSt S R t k e n c o h s wcn p pp sn x d pk v fl) t = sn := nw_t 10 (by decide)
  have a13 : ix (nwSt S R t k e n c o h s wcn p pp sn x d pk v fl) t = x := nw_t 13 (by decide)
  have a15 : ow (nwSt S R t k e n c o h s wcn p pp sn x d pk v fl) t = owN k n := nw_t 15 (by decide)
  have a16 : hg (nwSt S R t k e n c o h s wcn p pp sn x d pk v fl) t = 9 - d := nw_t 16 (by decide)
  have a20 : ∀ i, (nwSt S R t k e n c o h s wcn p pp sn x d pk v fl).1 (20 + i) t = pk i := fun i => by
    show (nwSt S R t k e n c o h s wcn p pp sn x d pk v fl).1 (20 + i) t = _
    rw [nw_t _ (by omega)]
    unfold rowF
    simp only [show ¬ 20 + i = 0 by omega, show ¬ 20 + i = 1 by omega, show ¬ 20 + i = 2 by omega, show ¬ 20 + i = 3 by omega, show ¬ 20 + i = 4 by omega, show ¬ 20 + i = 5 by omega, show ¬ 20 + i = 6 by omega, show ¬ 20 + i = 7 by omega, show ¬ 20 + i = 8 by omega, show ¬ 20 + i = 9 by omega, show ¬ 20 + i = 10 by omega, show ¬ 20 + i = 13 by omega, show ¬ 20 + i = 15 by omega, show ¬ 20 + i = 16 by omega, if_false, show 20 + i - 20 = i by omega]
  have av : vl (nwSt S R t k e n c o h s wcn p pp sn x d pk v fl) t = v := nw_g 0 0 (by decide)
  have d4 : td (nwSt S R t k e n c o h s wcn p pp sn x d pk v fl) t 4 = fl := nw_g 2 4 (by decide)
  have ah : ∀ i, (nwSt S R t k e n c o h s wcn p pp sn x d pk v fl).1 i (t + 1) = S.1 i (t + 1) := fun i => nw_o i (by omega)
  have as : 3 ≤ k ∧ k ≤ 5 → ∀ i, (nwSt S R t k e n c o h s wcn p pp sn x d pk v fl).1 i sn = S.1 i sn := fun z i => nw_o i (by have := (hb z).1; have := (h1 (by omega)).2.2.2.2.2; omega)
  have at' : ∀ i j, i = 11 ∨ i = 12 ∨ i = 17 → (nwSt S R t k e n c o h s wcn p pp sn x d pk v fl).1 i j = S.1 i j := fun i j z => nw_b i z
  generalize hS' : nwSt S R t k e n c o h s wcn p pp sn x d pk v fl = S' at *
  have tdk : ∀ i, i ≠ 4 ∨ k ≠ 1 → td S' t i = wW R (p + i) := fun i z => by
    rw [← hS']; exact nw_td i (by rcases z with z | z; exact Or.inl z; exact Or.inr (hfl z))
  unfold nOk
  rw [a0, a1, a2, a7, a8, a10, a13, a15, a16, a3, a4, a5, a6, av, d4]
  have e13 : hg S' (t + 1) = hg S (t + 1) := ah 16
  have e9 : par S' (t + 1) = par S (t + 1) := ah 9
  have e1 : en S' (t + 1) = en S (t + 1) := ah 1
  have e7 : wc S' (t + 1) = wc S (t + 1) := ah 7
  have e2 : wd S' (t + 1) = wd S (t + 1) := ah 2
  have e0 : kd S' (t + 1) = kd S (t + 1) := ah 0
  have ob : ∀ z, owN k n = z → owN k n = z := fun _ q => q
  rw [e13, e9, e1, e7, e2, e0]
  refine ⟨⟨hk10, hn1, hn12, hte, by omega, how, ?_, by rw [tdk 0 (Or.inl (by decide)), Nat.add_zero]; exact hw0, hwc.2.2, hwc.1, hwc.2.1⟩, fun z => ?_, fun z => ?_, fun z y => ?_, fun z => ?_, fun z => ?_, fun z => ?_, fun z => ?_, fun z => ?_, fun z => ?_, fun z => k6 z, fun z => ?_, fun z => ?_, fun z => k9 z, fun z => ?_, hx⟩
  · unfold owN; split <;> (try split) <;> (try split) <;> (try split) <;> (try split) <;> (try split) <;> (try split) <;> omega
  · obtain ⟨b1, b2, b3, b4, b5⟩ := h0 z
    refine ⟨b1, by unfold owN; rw [if_pos z], by rw [tdk 1 (Or.inl (by decide))]; exact b2, ?_, ?_, b5⟩
    · show s < S'.1 17 0; rw [at' 17 0 (by omega)]; exact b3
    · show n = S'.1 12 s; rw [at' 12 s (by omega)]; exact b4
  · obtain ⟨b1, b2, b3, b4, b5, b6⟩ := h1 z
    exact ⟨by rw [b3]; exact b1, b2, b4, b5, b6⟩
  · simp only [bin, a0] at y
    exact hu z y
  · simp only [bin, a0] at z
    obtain ⟨b1, b2, b3, b4, b5, b6, b7⟩ := hb z
    have q := as z
    have f16 : hg S' sn = hg S sn := q 16
    have f9 : par S' sn = par S sn := q 9
    have f1 : en S' sn = en S sn := q 1
    have f7 : wc S' sn = wc S sn := q 7
    rw [f16, f9, f1, f7]
    have hh := h1 (by omega)
    exact ⟨b1, b2, by rw [b3]; exact hh.1, b4, b5, b6, b7⟩
  · obtain ⟨b1, b2, b3, b4, b5, b6⟩ := k1 z
    refine ⟨by unfold owN; rw [if_neg (by omega), if_pos z], by rw [tdk 1 (Or.inl (by decide))]; exact b1, b2, b3, by rw [tdk 2 (Or.inl (by decide))]; exact b4, b5, by rw [tdk 3 (Or.inl (by decide))]; exact b6⟩
  · obtain ⟨b1, b2⟩ := k2 z
    refine ⟨by unfold owN; rw [if_neg (by omega), if_neg (by omega), if_pos z], b1, fun i hi => ?_⟩
    obtain ⟨c1, c2⟩ := b2 i hi
    have ap : (S'.1 (20 + i) t) = pk i := a20 i
    refine ⟨?_, ?_⟩
    · rw [tdk (2 + i) (Or.inr (by omega))]
      show wW R (p + (2 + i)) = nI (S'.1 (20 + i) t)
      rw [ap]; exact c1
    · show S'.1 (20 + i) t < _
      rw [ap]; exact c2
  · have f2 : wd S' sn = wd S sn := as (by omega) 2
    rw [f2]; exact k3 z
  · obtain ⟨b1, b2, b3, b4, b5⟩ := k4 z
    have f2 : wd S' sn = wd S sn := as (by omega) 2
    rw [f2]
    exact ⟨by unfold owN; rw [if_neg (by omega), if_neg (by omega), if_neg (by omega), if_pos z], b1, by rw [tdk 1 (Or.inl (by decide))]; exact b2, b3, by rw [tdk 2 (Or.inl (by decide))]; exact b4, b5⟩
  · have f2 : wd S' sn = wd S sn := as (by omega) 2
    rw [f2]; exact k5 z
  · obtain ⟨b1, b2, b3, b4, b5⟩ := k7 z
    exact ⟨by unfold owN; rw [if_neg (by omega), if_neg (by omega), if_neg (by omega), if_neg (by omega), if_pos z], b1, by rw [tdk 1 (Or.inl (by decide))]; exact b2, b3, by rw [tdk 2 (Or.inl (by decide))]; exact b4, b5⟩
  · obtain ⟨b1, b2⟩ := k8 z
    exact ⟨by unfold owN; rw [if_neg (by omega), if_neg (by omega), if_neg (by omega), if_neg (by omega), if_neg (by omega), if_pos z], b1, by rw [tdk 1 (Or.inl (by decide))]; exact b2⟩
  · obtain ⟨b1, b2, b3, b4, b5, b6, b7⟩ := k10 z
    exact ⟨by unfold owN; rw [if_neg (by omega), if_neg (by omega), if_neg (by omega), if_neg (by omega), if_neg (by omega), if_neg (by omega), if_pos z], b1, by rw [tdk 1 (Or.inl (by decide))]; exact b2, b3, by rw [tdk 2 (Or.inl (by decide))]; exact b4, b5, by rw [tdk 3 (Or.inl (by decide))]; exact b6, b7⟩
end NW
