/-! short words for contracts over the small machine -/
/-- an int comes, the heap stays -/
def kRI (h : kH) (x : Int32) : kO → kH → Prop := fun o h1 => o = .inl (some (.int x)) ∧ h1 = h
/-- a reference or null comes, the heap stays -/
def kRQ (h : kH) (r : Option Nat) : kO → kH → Prop := fun o h1 => o = .inl (some (va_rf r)) ∧ h1 = h
/-- nothing comes, the heap is this -/
def kRV (h : kH) : kO → kH → Prop := fun o h1 => o = .inl none ∧ h1 = h
/-- an int comes, the heap is so -/
def kRIx (x : Int32) (Q : kH → Prop) : kO → kH → Prop := fun o h1 => o = .inl (some (.int x)) ∧ Q h1
def kRVx (Q : kH → Prop) : kO → kH → Prop := fun o h1 => o = .inl none ∧ Q h1
theorem kRI_no {h : kH} {x : Int32} : ∀ E h1, ¬ kRI h x (.inr E) h1 := fun _ _ z => by cases z.1
theorem kRQ_no {h : kH} {r : Option Nat} : ∀ E h1, ¬ kRQ h r (.inr E) h1 := fun _ _ z => by cases z.1
theorem kRV_no {h : kH} : ∀ E h1, ¬ kRV h (.inr E) h1 := fun _ _ z => by cases z.1
theorem kRIx_no {x : Int32} {Q : kH → Prop} : ∀ E h1, ¬ kRIx x Q (.inr E) h1 := fun _ _ z => by cases z.1
theorem kRVx_no {Q : kH → Prop} : ∀ E h1, ¬ kRVx Q (.inr E) h1 := fun _ _ z => by cases z.1
theorem kRI_of {h : kH} {x y : Int32} (e : x = y) : kRI h y (.inl (some (.int x))) h := ⟨by rw [e], rfl⟩
/-- an int that says whether -/
noncomputable def kb (p : Prop) : Int32 := @ite _ p (Classical.propDecidable p) 1 0
theorem kb_t {p : Prop} (h : p) : kb p = 1 := by unfold kb; rw [if_pos h]
theorem kb_f {p : Prop} (h : ¬ p) : kb p = 0 := by unfold kb; rw [if_neg h]
theorem kb_0 {p : Prop} : kb p = 0 ↔ ¬ p := by
  by_cases h : p
  · rw [kb_t h]
    exact ⟨fun e => absurd e (by decide), fun n => absurd h n⟩
  · rw [kb_f h]
    exact ⟨fun _ => h, fun _ => rfl⟩
theorem kb_n0 {p : Prop} : ¬ kb p = 0 ↔ p := by
  rw [kb_0]
  exact Classical.not_not
theorem kb_bool (p : Prop) : narrow .boolean (.int (kb p)) = .int (kb p) := by
  by_cases h : p
  · rw [kb_t h]; rfl
  · rw [kb_f h]; rfl
theorem kb_congr {p q : Prop} (e : p ↔ q) : kb p = kb q := by rw [propext e]
noncomputable def kif {α : Type} (p : Prop) (x y : α) : α := @ite _ p (Classical.propDecidable p) x y
theorem kif_t {α : Type} {p : Prop} {x y : α} (h : p) : kif p x y = x := if_pos h
theorem kif_f {α : Type} {p : Prop} {x y : α} (h : ¬ p) : kif p x y = y := if_neg h
theorem k_ne {h : kH} {a b : Nat} {e1 e2 : kE} (h1 : h b = some e1) (h2 : h a = some e2) (hne : e1 ≠ e2) : b ≠ a := fun z => by
  rw [z, h2] at h1
  exact hne (Option.some.inj h1).symm
theorem k_fresh {h : kH} {b q : Nat} {e : kE} (h1 : h b = some e) (h2 : h q = none) : b ≠ q := fun z => by rw [z, h2] at h1; cases h1
theorem vp_nlt {x : Int32} {n : Nat} (h : ¬ vp_in x n) (hn : n < 2 ^ 31) : x < 0 ∨ nI n ≤ x := by
  by_cases h0 : x < 0
  · exact Or.inl h0
  · obtain ⟨j, hj, rfl⟩ := nI_of h0
    refine Or.inr ((nI_leI hn hj).mpr ?_)
    exact Nat.le_of_not_lt fun hlt => h (vp_in_nI hlt hn)
theorem vp_lt0 {x : Int32} {n : Nat} (h : x < 0) : ¬ vp_in x n := fun z => z (Or.inl h)
theorem vp_ge {x : Int32} {n : Nat} (hn : n < 2 ^ 31) (h : nI n ≤ x) : ¬ vp_in x n := by
  intro z
  obtain ⟨j, hj, rfl⟩ := vp_in_of z hn
  exact nI_ge hj hn h
theorem vp_mk {x : Int32} {n : Nat} (hn : n < 2 ^ 31) (h0 : ¬ x < 0) (h : ¬ nI n ≤ x) : vp_in x n := by
  obtain ⟨j, hj, rfl⟩ := nI_of h0
  refine vp_in_nI (Nat.lt_of_not_le fun hle => h (nI_le hle hj)) hn
section KB
variable {G : kG} {y : Nat} {C : kCl} {P : kO → kH → Prop} {pc : Nat} {lo : kL} {st : List Value} {h : kH} {mc ms : Nat} {i y1 : Nat} {As st0 : List Value} {a ci : Nat} {fs : List Value}
theorem k_callv_i {x : Int32} (hd : kI y pc = some (.invokevirtual i, 3)) (hm : kMth (kCn y) i = some y1) (hk : kKin y1 = 1) (hn : As.length = kArg y1 + 1) (hst : st0 = As.reverse ++ st) (hAs : As[0]? = some (.ref a)) (ha : h a = some (kOb ci fs)) (hci : kRcv y1 = some ci) (hw : (st.map fun v => v.category).sum ≤ 8) (hC : C y1 As h 0 0 (kRI h x))
    (k1 : kWP G y C P (pc + 3) lo (.int x :: st) h mc ms) : kWP G y C P pc lo st0 h mc ms :=
  k_callv (mc1 := 0) (ms1 := 0) (mc2 := mc) (ms2 := ms) hd hm hk hn hst hAs ha hci hw hC kRI_no (by omega) (by omega) (fun v h1 hP => by obtain ⟨e1, rfl⟩ := hP; cases e1; exact k1)
theorem k_calls_i {x : Int32} (hd : kI y pc = some (.invokestatic i, 3)) (hm : kMth (kCn y) i = some y1) (hk : kKin y1 = 0) (hn : As.length = kArg y1) (hst : st0 = As.reverse ++ st) (hw : (st.map fun v => v.category).sum ≤ 8) (hC : C y1 As h 0 0 (kRI h x))
    (k1 : kWP G y C P (pc + 3) lo (.int x :: st) h mc ms) : kWP G y C P pc lo st0 h mc ms :=
  k_calls (mc1 := 0) (ms1 := 0) (mc2 := mc) (ms2 := ms) hd hm hk hn hst hw hC kRI_no (by omega) (by omega) (fun v h1 hP => by obtain ⟨e1, rfl⟩ := hP; cases e1; exact k1)
theorem k_callv_q {r : Option Nat} (hd : kI y pc = some (.invokevirtual i, 3)) (hm : kMth (kCn y) i = some y1) (hk : kKin y1 = 1) (hn : As.length = kArg y1 + 1) (hst : st0 = As.reverse ++ st) (hAs : As[0]? = some (.ref a)) (ha : h a = some (kOb ci fs)) (hci : kRcv y1 = some ci) (hw : (st.map fun v => v.category).sum ≤ 8) (hC : C y1 As h 0 0 (kRQ h r))
    (k1 : kWP G y C P (pc + 3) lo (va_rf r :: st) h mc ms) : kWP G y C P pc lo st0 h mc ms :=
  k_callv (mc1 := 0) (ms1 := 0) (mc2 := mc) (ms2 := ms) hd hm hk hn hst hAs ha hci hw hC kRQ_no (by omega) (by omega) (fun v h1 hP => by obtain ⟨e1, rfl⟩ := hP; cases e1; exact k1)
theorem k_callv_v {h2 : kH} (hd : kI y pc = some (.invokevirtual i, 3)) (hm : kMth (kCn y) i = some y1) (hk : kKin y1 = 1) (hn : As.length = kArg y1 + 1) (hst : st0 = As.reverse ++ st) (hAs : As[0]? = some (.ref a)) (ha : h a = some (kOb ci fs)) (hci : kRcv y1 = some ci) (hw : (st.map fun v => v.category).sum ≤ 8) (hC : C y1 As h 0 0 (kRV h2))
    (k1 : kWP G y C P (pc + 3) lo st h2 mc ms) : kWP G y C P pc lo st0 h mc ms :=
  k_callv (mc1 := 0) (ms1 := 0) (mc2 := mc) (ms2 := ms) hd hm hk hn hst hAs ha hci hw hC kRV_no (by omega) (by omega) (fun v h1 hP => by obtain ⟨e1, rfl⟩ := hP; cases e1; exact k1)
end KB
theorem kset_none {h : kH} {a q : Nat} {e : kE} (n : kset h a e q = none) : q ≠ a ∧ h q = none := by
  by_cases hq : q = a
  · rw [hq, kset_self] at n
    cases n
  · exact ⟨hq, by rw [kset_ne hq] at n; exact n⟩
