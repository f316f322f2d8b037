/-! a turn of the law -/
set_option maxHeartbeats 4000000 in
theorem cmp0 (x : Int64) : lg_cmp x x = 0 := by
  unfold lg_cmp
  rw [if_neg (by rw [gt_iff_lt, Int64.lt_iff_toInt_lt]; omega), if_pos rfl]
/-- what may still be made -/
def rst (T : kT) : Nat × Nat := (kCc T (6, 60), kCs T (6, 60))
def bgt (T : kT) (n mc ms : Nat) : Prop := kCc T (6, 60) + n ≤ mc ∧ kCs T (6, 60) + 6 * n ≤ ms
set_option maxHeartbeats 4000000 in
theorem bgt_one {T : kT} {n mc ms : Nat} (h : bgt T (n + 1) mc ms) : (decide (1 ≤ mc) && decide (6 ≤ ms)) = true ∧ bgt T n (mc - 1) (ms - 6) := by
  unfold bgt at *
  generalize kCc T (6, 60) = a at *
  generalize kCs T (6, 60) = b at *
  refine ⟨?_, by omega, by omega⟩
  rw [Bool.and_eq_true]
  exact ⟨decide_eq_true (by omega), decide_eq_true (by omega)⟩
set_option maxHeartbeats 4000000 in
theorem bgt_mk {T T' : kT} {n mc ms : Nat} (h : bgt T (n + 1) mc ms) (h1 : T.1 ≤ T'.1) (h2 : T.2 ≤ T'.2) (h3 : T'.1 ≤ 6) (h4 : T'.2 ≤ 60) : (decide (kCc T T' + 1 ≤ mc) && decide (kCs T T' + 6 ≤ ms)) = true ∧ bgt T' n (mc - (kCc T T' + 1)) (ms - (kCs T T' + 6)) := by
  unfold bgt at *
  have e1 : kCc T (6, 60) = kCc T T' + kCc T' (6, 60) := by unfold kCc; show 4 * (6 - T.1) + 6 * (60 - T.2) = _ + (4 * (6 - T'.1) + 6 * (60 - T'.2)); omega
  have e2 : kCs T (6, 60) = kCs T T' + kCs T' (6, 60) := by
    unfold kCs
    show 492 * (6 - T.1) + 1990 * (60 - T.2) = (492 * (T'.1 - T.1) + 1990 * (T'.2 - T.2)) + (492 * (6 - T'.1) + 1990 * (60 - T'.2))
    have x1 : 6 - T.1 = (T'.1 - T.1) + (6 - T'.1) := by omega
    have x2 : 60 - T.2 = (T'.2 - T.2) + (60 - T'.2) := by omega
    rw [x1, x2, Nat.mul_add, Nat.mul_add, Nat.add_add_add_comm]
  rw [e1, e2] at h
  generalize kCc T T' = a at *
  generalize kCs T T' = b at *
  generalize kCc T' (6, 60) = c at *
  generalize kCs T' (6, 60) = d at *
  refine ⟨?_, by omega, by omega⟩
  rw [Bool.and_eq_true]
  exact ⟨decide_eq_true (by omega), decide_eq_true (by omega)⟩
abbrev Trn (G : kG) (i n : Nat) (x : Option ((Int32 × kT × kM × Nat × Nat) ⊕ (Int32 × kM))) : Prop := ∃ T' M' mc' ms', x = some (.inl (nI (i + 5), T', M', mc', ms')) ∧ iNv T' M' ∧ bgt T' n mc' ms'
set_option maxHeartbeats 4000000 in
theorem tr_U {G : kG} {i n : Nat} {T : kT} {mc ms : Nat} {c : Option (Int32 × kM)} {r : kM → Option (Unit × kM)} (h : okU T c r) (hb : bgt T (n + 1) mc ms) : Trn G i n (kBd c (fun k M1 => kGd (decide (1 ≤ mc) && decide (6 ≤ ms)) (kBd (r M1) (fun _ M2 => kBd (F_94 T M2) (fun x M3 => if x = k then (some (.inl ((nI i + 5), T, M3, mc - 1, ms - 6))) else (some (.inr (0, M3)))))))) := by
  obtain ⟨k, M1, M2, e1, e2, e3, e4⟩ := h
  obtain ⟨b1, b2⟩ := bgt_one hb
  refine ⟨T, M2, mc - 1, ms - 6, ?_, e4, b2⟩
  rw [e1, kBd_s, b1, kGd_t, e2, kBd_s]
  unfold F_94
  rw [kBd_s, if_pos e3, pn_addL]
set_option maxHeartbeats 4000000 in
theorem tr_I {G : kG} {i n : Nat} {T : kT} {mc ms : Nat} {c : Option (Int32 × kM)} {r : kM → Option (Int32 × kM)} (h : okI T c r) (hb : bgt T (n + 1) mc ms) : Trn G i n (kBd c (fun k M1 => kGd (decide (1 ≤ mc) && decide (6 ≤ ms)) (kBd (r M1) (fun b M2 => kBd (F_94 T M2) (fun x M3 => if x = k then (if k = 0 then (kGx 0 1 (if (lg_cmp (go M3 (0 : Int32).toNatClampNeg) b.toInt64) = 0 then (some (.inl ((nI i + 5), T, M3, mc - 1, ms - 6))) else (some (.inr (0, M3))))) else (some (.inl ((nI i + 5), T, M3, mc - 1, ms - 6)))) else (some (.inr (0, M3)))))))) := by
  obtain ⟨k, M1, b, M2, e1, e2, e3, e5, e4⟩ := h
  obtain ⟨b1, b2⟩ := bgt_one hb
  refine ⟨T, M2, mc - 1, ms - 6, ?_, e4, b2⟩
  rw [e1, kBd_s, b1, kGd_t, e2, kBd_s]
  unfold F_94
  rw [kBd_s, if_pos e3, pn_addL]
  by_cases q : k = 0
  · rw [if_pos q, kGx_L _ (by omega) (by omega), pn_z, e5 q, cmp0, if_pos rfl]
  · rw [if_neg q]
set_option maxHeartbeats 4000000 in
theorem tr_A {G : kG} {i n : Nat} {T : kT} {mc ms : Nat} {c : Option (Int32 × kT × kM)} {r : kT → kM → Option (Int32 × kM)} (h : okA T c r) (hb : bgt T (n + 1) mc ms) : Trn G i n (kBt c (fun k T9 M1 => kGd (decide (kCc T T9 + 1 ≤ mc) && decide (kCs T T9 + 6 ≤ ms)) (kBd (r T9 M1) (fun b M2 => kBd (F_94 T9 M2) (fun x M3 => if x = k then (if k = 0 then (kGx 0 1 (if (lg_cmp (go M3 (0 : Int32).toNatClampNeg) b.toInt64) = 0 then (some (.inl ((nI i + 5), T9, M3, mc - (kCc T T9 + 1), ms - (kCs T T9 + 6)))) else (some (.inr (0, M3))))) else (some (.inl ((nI i + 5), T9, M3, mc - (kCc T T9 + 1), ms - (kCs T T9 + 6))))) else (some (.inr (0, M3)))))))) := by
  obtain ⟨k, T', M1, b, M2, e1, e2, e3, e5, e4, l1, l2⟩ := h
  obtain ⟨b1, b2⟩ := bgt_mk hb l1 l2 e4.2.2.2.1 e4.2.2.2.2.1
  refine ⟨T', M2, _, _, ?_, e4, b2⟩
  rw [e1, kBt_s, b1, kGd_t, e2, kBd_s]
  unfold F_94
  rw [kBd_s, if_pos e3, pn_addL]
  by_cases q : k = 0
  · rw [if_pos q, kGx_L _ (by omega) (by omega), pn_z, e5 q, cmp0, if_pos rfl]
  · rw [if_neg q]
set_option maxHeartbeats 4000000 in
theorem bgt_le {T : kT} {n mc ms : Nat} (h : bgt T (n + 1) mc ms) : bgt T n mc ms := by
  unfold bgt at *
  generalize kCc T (6, 60) = a at *
  generalize kCs T (6, 60) = b at *
  omega
set_option maxHeartbeats 4000000 in
theorem tr_O {G : kG} {i n : Nat} {T : kT} {mc ms : Nat} {c : Option (Int32 × kM)} {r : kM → Option (Int32 × kM)} (h : ∃ x M1 M2, c = some (x, M1) ∧ r M1 = some (x, M2) ∧ iNv T M2) (hb : bgt T (n + 1) mc ms) : Trn G i n (kBd c (fun x M1 => kBd (r M1) (fun y M2 => if x = y then (some (.inl ((nI i + 5), T, M2, mc, ms))) else (some (.inr (0, M2)))))) := by
  obtain ⟨x, M1, M2, e1, e2, e3⟩ := h
  refine ⟨T, M2, mc, ms, ?_, e3, bgt_le hb⟩
  rw [e1, kBd_s, e2, kBd_s, if_pos rfl, pn_addL]
set_option maxHeartbeats 4000000 in
theorem law_turn {G : kG} {i n : Nat} {T : kT} {M : kM} {mc ms : Nat} (cP : ∀ {T : kT} {M : kM}, iNv T M → okA T (F_154 T M) (fun T' => F_120 T')) (hL : G.2.1 ≤ 2560) (hi : i + 5 ≤ G.2.1) (h : iNv T M) (hb : bgt T (n + 1) mc ms) : Trn G i n (B_156_23 G (nI i) T M mc ms) := by
  have g0 : ∀ {β : Type} {r : Option β}, kGx (nI i) G.2.1 r = r := fun {β r} => kGx_nI (by omega) (by omega)
  have g1 : ∀ {β : Type} {r : Option β}, kGx (nI i + 1) G.2.1 r = r := fun {β r} => by rw [pn_addL]; exact kGx_nI (by omega) (by omega)
  have g2 : ∀ {β : Type} {r : Option β}, kGx (nI i + 2) G.2.1 r = r := fun {β r} => by rw [pn_addL]; exact kGx_nI (by omega) (by omega)
  have g3 : ∀ {β : Type} {r : Option β}, kGx (nI i + 3) G.2.1 r = r := fun {β r} => by rw [pn_addL]; exact kGx_nI (by omega) (by omega)
  have g4 : ∀ {β : Type} {r : Option β}, kGx (nI i + 4) G.2.1 r = r := fun {β r} => by rw [pn_addL]; exact kGx_nI (by omega) (by omega)
  have go : ¬ (Int32.ofNat G.2.1 - 5) < nI i := by
    show ¬ (nI G.2.1 - 5) < nI i
    rw [pn_subL _ (by omega), pn_lt (by omega) (by omega)]
    omega
  unfold B_156_23
  rw [if_neg go, g0]
  by_cases k0 : (G.2.2 (nI i).toNatClampNeg) &&& 15 = 0
  · rw [if_pos k0]; unfold F_156_116 F_156_169; simp only [g1]; exact tr_A (c_table h) hb
  rw [if_neg k0]
  by_cases k1 : (G.2.2 (nI i).toNatClampNeg) &&& 15 = 1
  · rw [if_pos k1]; unfold F_156_172; simp only [g1, g2]; exact tr_U (c_index h) hb
  rw [if_neg k1]
  by_cases k2 : (G.2.2 (nI i).toNatClampNeg) &&& 15 = 2
  · rw [if_pos k2]; unfold F_156_220; simp only [g1, g2]; exact tr_U (c_stage h) hb
  rw [if_neg k2]
  by_cases k3 : (G.2.2 (nI i).toNatClampNeg) &&& 15 = 3
  · rw [if_pos k3]; unfold F_156_268 F_156_321; simp only [g1]; exact tr_I (c_insert h) hb
  rw [if_neg k3]
  by_cases k4 : (G.2.2 (nI i).toNatClampNeg) &&& 15 = 4
  · rw [if_pos k4]; unfold F_156_324 F_156_401; simp only [g1, g2, g3]; exact tr_I (c_delete h) hb
  rw [if_neg k4]
  by_cases k5 : (G.2.2 (nI i).toNatClampNeg) &&& 15 = 5
  · rw [if_pos k5]; unfold F_156_404 F_156_493; simp only [g1, g2, g3, g4]; exact tr_I (c_change h) hb
  rw [if_neg k5]
  by_cases k6 : (G.2.2 (nI i).toNatClampNeg) &&& 15 = 6
  · rw [if_pos k6]; unfold F_156_496; exact tr_U (c_begin h) hb
  rw [if_neg k6]
  by_cases k7 : (G.2.2 (nI i).toNatClampNeg) &&& 15 = 7
  · rw [if_pos k7]; unfold F_156_520 F_156_561; exact tr_I (c_commit h) hb
  rw [if_neg k7]
  by_cases k8 : (G.2.2 (nI i).toNatClampNeg) &&& 15 = 8
  · rw [if_pos k8]; unfold F_156_564 F_156_605; exact tr_I (c_rollback h) hb
  rw [if_neg k8]
  by_cases k9 : (G.2.2 (nI i).toNatClampNeg) &&& 15 = 9
  · rw [if_pos k9]; unfold F_156_608 F_156_685; simp only [g1, g2, g3]; exact tr_I (c_cell h) hb
  rw [if_neg k9]
  by_cases k10 : (G.2.2 (nI i).toNatClampNeg) &&& 15 = 10
  · rw [if_pos k10]; unfold F_156_688 F_156_741; simp only [g1]; exact tr_I (c_feed h) hb
  rw [if_neg k10]
  by_cases k11 : (G.2.2 (nI i).toNatClampNeg) &&& 15 = 11
  · rw [if_pos k11]; unfold F_156_744 F_156_785; exact tr_A (cP h) hb
  rw [if_neg k11]
  by_cases k12 : (G.2.2 (nI i).toNatClampNeg) &&& 15 = 12
  · rw [if_pos k12]; unfold F_156_788; exact tr_O (c_place h) hb
  rw [if_neg k12]
  by_cases k13 : (G.2.2 (nI i).toNatClampNeg) &&& 15 = 13
  · rw [if_pos k13]; unfold F_156_801 F_156_854; simp only [g1]; exact tr_I (c_step h) hb
  rw [if_neg k13]
  by_cases k14 : (G.2.2 (nI i).toNatClampNeg) &&& 15 = 14
  · rw [if_pos k14]; unfold F_156_857; simp only [g1]; exact tr_O (c_column h) hb
  rw [if_neg k14]
  by_cases k15 : (G.2.2 (nI i).toNatClampNeg) &&& 15 = 15
  · rw [if_pos k15]; unfold F_156_882; exact tr_O (c_cost h) hb
  rw [if_neg k15, pn_addL]
  exact ⟨T, M, mc, ms, rfl, h, bgt_le hb⟩
set_option maxHeartbeats 4000000 in
theorem law_loop {G : kG} (cP : ∀ {T : kT} {M : kM}, iNv T M → okA T (F_154 T M) (fun T' => F_120 T')) (hL : G.2.1 ≤ 2560) : ∀ n i T M mc ms, i ≤ 2560 → G.2.1 < i + 5 * n + 5 → iNv T M → bgt T n mc ms → ∃ Mz, F_156_23 G (nI i) T M mc ms = some (1, Mz) := by
  have stop : ∀ i T M mc ms, i ≤ 2565 → G.2.1 < i + 5 → F_156_23 G (nI i) T M mc ms = some (1, M) := by
    intro i T M mc ms hi hs
    rw [F_156_23_eq]
    unfold B_156_23
    have : (Int32.ofNat G.2.1 - 5) < nI i := by
      show (nI G.2.1 - 5) < nI i
      by_cases q : 5 ≤ G.2.1
      · rw [pn_subL _ q, pn_lt (by omega) (by omega)]; omega
      · rw [Int32.lt_iff_toInt_lt, nI_toInt (by omega), Int32.toInt_sub, nI_toInt (by omega), show (5 : Int32).toInt = 5 by decide, Int.bmod_eq_of_le (by omega) (by omega)]
        omega
    rw [if_pos this, kAg_r]
  intro n
  induction n with
  | zero => intro i T M mc ms hi hs h hb; exact ⟨M, stop i T M mc ms (by omega) (by omega)⟩
  | succ n ih =>
    intro i T M mc ms hi hs h hb
    by_cases q : i + 5 ≤ G.2.1
    · obtain ⟨T', M', mc', ms', e, h', hb'⟩ := law_turn (n := n) cP hL q h hb
      rw [F_156_23_eq, e, kAg_l]
      exact ih (i + 5) T' M' mc' ms' (by omega) (by omega) h' hb'
    · exact ⟨M, stop i T M mc ms (by omega) (by omega)⟩
