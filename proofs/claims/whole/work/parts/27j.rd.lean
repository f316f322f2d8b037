set_option maxHeartbeats 4000000 in
theorem cx {T : kT} {k t h c k1 j w : Nat} {C : kM} (ht : t < T.2) (hk : gp C (lTm t) 0 = nI k) (hk10 : k ≤ 10) (h3 : gp C (lTm t) 3 = nI h) (hh : h ≤ 5) (h1 : k = 1 → gp C (lTm t) 1 = nI c ∧ gq C (lTm t) 7 = some (t + 1) ∧ t + 1 < T.2 ∧ gp C (lTm (t + 1)) 0 = nI k1 ∧ k1 ≤ 10 ∧ (k1 = 0 → gq C (lTm (t + 1)) 6 = some j ∧ j < T.1 ∧ gp C (lTb j) 0 = nI w ∧ c < w ∧ w ≤ 6)) :
    F_44 T (some t) C = some ((), if k = 1 ∧ h = 0 ∧ k1 = 0 ∧ ¬ gp C (lTx j) c = 0 then sq C (lTm t) 6 (some j) else C) := by
  unfold F_44
  rw [kOpt_s, lv_tm ht, kGd_t, hk, h3]
  by_cases q1 : k = 1
  · obtain ⟨a1, a2, a3, a4, a5, a6⟩ := h1 q1
    rw [if_pos (by rw [q1]; rfl)]
    by_cases q2 : h = 0
    · rw [if_pos (by rw [q2]; rfl), a2, kOpt_s, lv_tm a3, kGd_t, a4]
      by_cases q3 : k1 = 0
      · obtain ⟨b1, b2, b3, b4, b5⟩ := a6 q3
        rw [if_pos (by rw [q3]; rfl), b1, kOpt_s, lv_tb b2, kGd_t, a1, hasC_in b2 b3 b5 b4, kBd_s, if_neg (by decide), a1, kGx_nI (by omega) (by omega), pn_nat (by omega)]
        by_cases q4 : gp C (lTx j) c = 0
        · rw [if_pos q4, if_neg (fun z => z.2.2.2 q4)]
        · rw [if_neg q4, if_pos ⟨q1, q2, q3, q4⟩]
      · rw [if_neg (by rw [pn_eqL _ (by omega) (by omega)]; exact q3), if_neg (fun z => q3 z.2.2.1)]
    · rw [if_neg (by rw [pn_eqL _ (by omega) (by omega)]; exact q2), if_neg (fun z => q2 z.2.1)]
  · rw [if_neg (by rw [pn_eqL _ (by omega) (by omega)]; exact q1), if_neg (fun z => q1 z.1)]
/-- how many words of its own a term has -/
def owN (k w : Nat) : Nat := if k = 0 then 2 else if k = 1 then 4 else if k = 2 then 2 + w else if k = 4 then 3 else if k = 7 then 3 else if k = 8 then 2 else if k = 10 then 4 else 1
/-- a term's row of the picture -/
def rowF (k e n c o h s wcn p pp sn x d : Nat) (pk : Nat → Nat) : Nat → Nat := fun i =>
  if i = 0 then k else if i = 1 then e else if i = 2 then n else if i = 3 then c else if i = 4 then o else if i = 5 then h else if i = 6 then s else if i = 7 then wcn else if i = 8 then p else if i = 9 then pp else if i = 10 then sn else if i = 13 then x else if i = 15 then owN k n else if i = 16 then 9 - d else pk (i - 20)
def rowG (R : kM) (p : Nat) (v fl : Int32) : Nat → Nat → Int32 := fun i x => if i = 0 then v else if x = 4 then fl else wW R (p + x)
/-- the picture with the new term -/
def nwSt (S : kS) (R : kM) (t k e n c o h s wcn p pp sn x d : Nat) (pk : Nat → Nat) (v fl : Int32) : kS := stSN S t (rowF k e n c o h s wcn p pp sn x d pk) (rowG R p v fl)
