set_option maxHeartbeats 4000000 in
theorem fin_all {T : kT} {S : kS} {m k t p p1 p3 n3 d pp c sn : Nat} {C2 C R : kM} {ak : kT → Int32 → kM → Option (Option Nat × kT × kM)} (h : preF T S m k t p p1 p3 n3 d pp c sn C2 C R) :
    noR T m n3 t C R (F_38_107 T ak (nI p) t C) (Ii T (d + 1) R) ∨ okR T S m t p d pp C (if d = 0 then R else sp R (lMa 33) (d - 1) (nI c)) (F_38_107 T ak (nI p) t C) (Ii T (d + 1) R) := by
  have hkids := fin_kids h
  have h' := h
  obtain ⟨⟨hd, htn, hnp, hk10, hpp⟩, ⟨hs, st, hu, tb, kid⟩, ⟨hb, nm, hk, hw0, hp1'⟩, ⟨r17, r18, d0, r32, r33, r33'⟩, k0, k1, nb, un, bi⟩ := h
  have m60 := hs.1
  have pm := hs.2.1
  have tT : t < T.2 := by have := st.2.2.1; omega
  have ha : k ≠ 0 → 1 ≤ (if k = 0 then 0 else wd S (t + 1)) := fun z => by rw [if_neg z]; exact (kid (t + 1) (Nat.le_refl _) (k1 z).2.2.1).2.2.1.2.1
  have ha12 : (if k = 0 then 0 else wd S (t + 1)) ≤ 12 := by
    by_cases z : k = 0
    · rw [if_pos z]; omega
    · rw [if_neg z]; exact (kid (t + 1) (Nat.le_refl _) (k1 z).2.2.1).2.2.1.2.2.1
  have hb12 : (if 3 ≤ k ∧ k ≤ 5 then wd S sn else 0) ≤ 12 := by
    by_cases z : 3 ≤ k ∧ k ≤ 5
    · rw [if_pos z]
      have := (kid (t + 1) (Nat.le_refl _) (k1 (by omega)).2.2.1).2.2.1.2.2.2.1
      exact (kid sn (by have := (bi z).2.2.1; omega) (bi z).2.2.2.1).2.2.1.2.2.1
    · rw [if_neg z]; omega
  rcases look_all hk10 (by omega) tT nm hk r17 (by omega) hkids ha ha12 hb12 tb with ⟨n, l1, l2, l3, l4, l5, l6⟩ | ⟨n, l5, l6⟩
  · by_cases n12 : n ≤ 12
    · obtain ⟨cc, o, hh, s, pk, e1, e2⟩ := fldE hk10 (by omega) (by omega) hb nm l1
      exact Or.inr (fin_ok h' l3 n12 l5 l6 e1 e2 l2)
    · exact Or.inl (fin_no h' l5 (Or.inr (by rw [pn_leL _ (by omega) (by omega)]; exact n12)) l6 (fun _ => by omega) (Or.inr rfl) (fun z => n12 z.2))
  · exact Or.inl (fin_no h' l5 (Or.inl (by decide)) l6 (fun z => absurd z (by decide)) (Or.inl rfl) (fun z => absurd z.1 (by decide)))
