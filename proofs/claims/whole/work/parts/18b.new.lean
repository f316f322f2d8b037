/-! new tables and new terms -/
/-- everything that is pointed to is there -/
def kQl (T : kT) (M : kM) : Prop := (∀ j, gq M lD 6 = some j → j < T.2) ∧ (∀ k j, gq M lAl k = some j → j < T.1) ∧ (∀ k j, gq M lTe k = some j → j < T.2) ∧ ∀ i, i < T.2 → (∀ j, gq M (lTm i) 6 = some j → j < T.1) ∧ (∀ j, gq M (lTm i) 7 = some j → j < T.2) ∧ (∀ j, gq M (lTm i) 8 = some j → j < T.2)
noncomputable def kQb (T : kT) (M : kM) : Bool := @decide (kQl T M) (Classical.propDecidable _)
theorem kQb_iff {T : kT} {M : kM} : kQb T M = true ↔ kQl T M := by
  unfold kQb
  exact @decide_eq_true_iff _ (Classical.propDecidable _)
def kExt (T : kT) (A A' : kLb → Nat) : Prop := ∀ l, kLv T l = true → A' l = A l
def kLe (T T' : kT) : Prop := T.1 ≤ T'.1 ∧ T.2 ≤ T'.2
theorem kLv_mono {T T' : kT} (le : kLe T T') {l : kLb} (g : kLv T l = true) : kLv T' l = true := by
  obtain ⟨h1, h2⟩ := le
  unfold kLv at g ⊢
  split at g <;> rename_i z <;> first | exact g | (have := of_decide_eq_true g; exact decide_eq_true (by omega))
theorem kExt_tr {T T1 : kT} {A A1 A2 : kLb → Nat} (le : kLe T T1) (x1 : kExt T A A1) (x2 : kExt T1 A1 A2) : kExt T A A2 := fun l g => (x2 l (kLv_mono le g)).trans (x1 l g)
theorem rTm_ext {A A' : kLb → Nat} {e : Option Nat} (h : ∀ j, e = some j → A' (lTm j) = A (lTm j)) : rTm A' e = rTm A e := by
  cases e with
  | none => rfl
  | some j => show va_rf (some (A' (lTm j))) = va_rf (some (A (lTm j))); rw [h j rfl]
theorem rTb_ext {A A' : kLb → Nat} {e : Option Nat} (h : ∀ j, e = some j → A' (lTb j) = A (lTb j)) : rTb A' e = rTb A e := by
  cases e with
  | none => rfl
  | some j => show va_rf (some (A' (lTb j))) = va_rf (some (A (lTb j))); rw [h j rfl]
theorem map_ext' {A A' : Nat → Nat} {e : Option Nat} (h : ∀ j, e = some j → A' j = A j) : e.map A' = e.map A := by
  cases e with
  | none => rfl
  | some j => show some _ = some _; rw [h j rfl]
theorem live_fst {T : kT} {f i : Nat} (hf : f ≤ 10) (g : kLv T (f, i) = true) : i = 0 := by
  have h9 : ∀ f, f ≤ 10 → kLv T (f, i) = (decide (f ≤ 10) && decide (i = 0)) := by
    intro f hf
    match f, hf with
    | 0, _ | 1, _ | 2, _ | 3, _ | 4, _ | 5, _ | 6, _ | 7, _ | 8, _ | 9, _ | 10, _ => rfl
    | f + 11, hf => omega
  rw [h9 f hf] at g
  simp at g
  exact g.2
set_option maxHeartbeats 4000000 in
theorem ment_ext {A A' : kLb → Nat} {T : kT} {M : kM} {l : kLb} (hQ : kQl T M) (x : kExt T A A') (g : kLv T l = true) : ment A' M l = ment A M l := by
  obtain ⟨f, i⟩ := l
  obtain ⟨q1, q2, q3, q4⟩ := hQ
  have lv2 : ∀ j, j < T.1 → A' (lTb j) = A (lTb j) := fun j h => x (lTb j) (decide_eq_true h)
  have lv3 : ∀ j, j < T.2 → A' (lTm j) = A (lTm j) := fun j h => x (lTm j) (decide_eq_true h)
  match f, g with
  | 0, g =>
    have hi : i = 0 := live_fst (by decide) g
    subst hi
    show kOb 0 [.ref (A' lTs), .ref (A' lHa), .ref (A' lRd), .ref (A' lRu), .ref (A' lLa), .int (gp M lD 5), rTm A' (gq M lD 6)] = kOb 0 [.ref (A lTs), .ref (A lHa), .ref (A lRd), .ref (A lRu), .ref (A lLa), .int (gp M lD 5), rTm A (gq M lD 6)]
    rw [x lTs rfl, x lHa rfl, x lRd rfl, x lRu rfl, x lLa rfl, rTm_ext (fun j h => lv3 j (q1 j h))]
  | 1, g =>
    have hi : i = 0 := live_fst (by decide) g
    subst hi
    show kOb 5 [.ref (A' lAl), .int (gp M lTs 1), .int (gp M lTs 2), .int (gp M lTs 3)] = kOb 5 [.ref (A lAl), .int (gp M lTs 1), .int (gp M lTs 2), .int (gp M lTs 3)]
    rw [x lAl rfl]
  | 2, g =>
    have hi : i = 0 := live_fst (by decide) g
    subst hi
    show kAR 3 6 (fun k => (gq M lAl k).map fun j => A' (lTb j)) = kAR 3 6 (fun k => (gq M lAl k).map fun j => A (lTb j))
    rw [show (fun k => (gq M lAl k).map fun j => A' (lTb j)) = (fun k => (gq M lAl k).map fun j => A (lTb j)) from funext fun k => map_ext' (fun j h => lv2 j (q2 k j h))]
  | 3, _ => rfl
  | 4, g =>
    have hi : i = 0 := live_fst (by decide) g
    subst hi
    show kOb 2 [.ref (A' lWo), .int (gp M lRd 1), .int (gp M lRd 2), .int (gp M lRd 3), .ref (A' lTe), .int (gp M lRd 5)] = kOb 2 [.ref (A lWo), .int (gp M lRd 1), .int (gp M lRd 2), .int (gp M lRd 3), .ref (A lTe), .int (gp M lRd 5)]
    rw [x lWo rfl, x lTe rfl]
  | 5, _ => rfl
  | 6, g =>
    have hi : i = 0 := live_fst (by decide) g
    subst hi
    show kAR 4 60 (fun k => (gq M lTe k).map fun j => A' (lTm j)) = kAR 4 60 (fun k => (gq M lTe k).map fun j => A (lTm j))
    rw [show (fun k => (gq M lTe k).map fun j => A' (lTm j)) = (fun k => (gq M lTe k).map fun j => A (lTm j)) from funext fun k => map_ext' (fun j h => lv3 j (q3 k j h))]
  | 7, _ => rfl
  | 8, _ => rfl
  | 9, _ => rfl
  | 10, g =>
    have hi : i = 0 := live_fst (by decide) g
    subst hi
    unfold ment mentG
    simp only
    rw [x (lMa 2) rfl, x (lMa 3) rfl, x (lMa 4) rfl, x (lMa 5) rfl, x (lMa 6) rfl, x (lMa 9) rfl, x (lMa 10) rfl, x (lMa 12) rfl, x (lMa 13) rfl, x (lMa 17) rfl, x (lMa 18) rfl, x (lMa 19) rfl, x (lMa 20) rfl, x (lMa 21) rfl, x (lMa 26) rfl, x (lMa 27) rfl, x (lMa 28) rfl, x (lMa 29) rfl, x (lMa 30) rfl, x (lMa 32) rfl, x (lMa 33) rfl, x (lMa 34) rfl, x (lMa 38) rfl, x (lMa 39) rfl]
  | 11, g =>
    show kOb 4 [.int (gp M (lTb i) 0), .ref (A' (lTx i)), .ref (A' (lTc i)), .ref (A' (lTv i)), .int (gp M (lTb i) 4), .int (gp M (lTb i) 5)] = kOb 4 [.int (gp M (lTb i) 0), .ref (A (lTx i)), .ref (A (lTc i)), .ref (A (lTv i)), .int (gp M (lTb i) 4), .int (gp M (lTb i) 5)]
    rw [x (lTx i) g, x (lTc i) g, x (lTv i) g]
  | 12, _ => rfl
  | 13, _ => rfl
  | 14, _ => rfl
  | 15, g =>
    obtain ⟨p1, p2, p3⟩ := q4 i (of_decide_eq_true g)
    have e1 := rTb_ext (fun j h => lv2 j (p1 j h))
    have e2 := rTm_ext (fun j h => lv3 j (p2 j h))
    have e3 := rTm_ext (fun j h => lv3 j (p3 j h))
    unfold ment mentG
    simp only
    rw [e1, e2, e3, x (lPk i) g, x (lRw i) g, x (lKp i) g]
  | 16, _ => rfl
  | 17, _ => rfl
  | 18, g =>
    show kOb 1 [.ref (A' (lKc i)), .ref (A' (lKo i)), .int (gp M (lKp i) 2), .int (gp M (lKp i) 3)] = kOb 1 [.ref (A (lKc i)), .ref (A (lKo i)), .int (gp M (lKp i) 2), .int (gp M (lKp i) 3)]
    rw [x (lKc i) g, x (lKo i) g]
  | 19, _ => rfl
  | 20, _ => rfl
  | 21, _ => rfl
  | f + 22, _ => rfl
def sqa (M : kM) (l : kLb) (f : Nat → Option Nat) : kM := (M.1, fun l' => if l' = l then f else M.2.1 l', M.2.2)
theorem gq_sqa (M : kM) (l : kLb) (f : Nat → Option Nat) : gq (sqa M l f) l = f := if_pos rfl
theorem gq_sqa_ne {M : kM} {l l' : kLb} {f : Nat → Option Nat} (hn : l' ≠ l) : gq (sqa M l f) l' = gq M l' := if_neg hn
theorem gp_sqa (M : kM) (l l' : kLb) (f : Nat → Option Nat) : gp (sqa M l f) l' = gp M l' := rfl
theorem go_sqa (M : kM) (l : kLb) (f : Nat → Option Nat) : go (sqa M l f) = go M := rfl
/-- the memory with a new table n of c columns -/
def nwTb (M : kM) (n : Nat) (c : Int32) : kM := sa (sa (sa (sa M (lTb n) (fun k => if k = 0 then c else 0)) (lTx n) (fun _ => 0)) (lTc n) (fun _ => 0)) (lTv n) (fun _ => 0)
/-- the memory with a new term n -/
def nwTm (M : kM) (n : Nat) : kM := sqa (sa (sa (sa (sa (sa (sa M (lTm n) (fun _ => 0)) (lPk n) (fun _ => 0)) (lRw n) (fun _ => 0)) (lKp n) (fun _ => 0)) (lKc n) (fun _ => 0)) (lKo n) (fun _ => 0)) (lTm n) (fun _ => none)
theorem kLv_spT {T : kT} {l : kLb} (g : kLv (T.1 + 1, T.2) l = true) : kLv T l = true ∨ l = lTb T.1 ∨ l = lTx T.1 ∨ l = lTc T.1 ∨ l = lTv T.1 := by
  obtain ⟨f, i⟩ := l
  match f, g with
  | 0, g | 1, g | 2, g | 3, g | 4, g | 5, g | 6, g | 7, g | 8, g | 9, g | 10, g | 15, g | 16, g | 17, g | 18, g | 19, g | 20, g | 21, g | f + 22, g => exact Or.inl g
  | 11, g | 12, g | 13, g | 14, g =>
    have h : i < T.1 + 1 := of_decide_eq_true g
    by_cases h2 : i < T.1
    · exact Or.inl (decide_eq_true h2)
    · have : i = T.1 := by omega
      subst this
      simp
theorem kLv_spM {T : kT} {l : kLb} (g : kLv (T.1, T.2 + 1) l = true) : kLv T l = true ∨ l = lTm T.2 ∨ l = lPk T.2 ∨ l = lRw T.2 ∨ l = lKp T.2 ∨ l = lKc T.2 ∨ l = lKo T.2 := by
  obtain ⟨f, i⟩ := l
  match f, g with
  | 0, g | 1, g | 2, g | 3, g | 4, g | 5, g | 6, g | 7, g | 8, g | 9, g | 10, g | 11, g | 12, g | 13, g | 14, g | 21, g | f + 22, g => exact Or.inl g
  | 15, g | 16, g | 17, g | 18, g | 19, g | 20, g =>
    have h : i < T.2 + 1 := of_decide_eq_true g
    by_cases h2 : i < T.2
    · exact Or.inl (decide_eq_true h2)
    · have : i = T.2 := by omega
      subst this
      simp
theorem kLv_nT (T : kT) : kLv T (lTb T.1) = false := decide_eq_false (Nat.lt_irrefl _)
theorem kLv_nM (T : kT) : kLv T (lTm T.2) = false := decide_eq_false (Nat.lt_irrefl _)
theorem kLv_newT (T : kT) : kLv (T.1 + 1, T.2) (lTb T.1) = true := decide_eq_true (Nat.lt_succ_self _)
theorem kLv_newM (T : kT) : kLv (T.1, T.2 + 1) (lTm T.2) = true := decide_eq_true (Nat.lt_succ_self _)
set_option maxHeartbeats 1000000 in
theorem newTb {A : kLb → Nat} {T : kT} {M : kM} {h1 : kH} {q : Nat} {c : Int32} {o : kO} {e9 : kE} (hQ : kQl T M)
    (hP : IP_70 (lup A (lTb T.1) q) (lup (kLv T) (lTb T.1) true) (lup (ment A M) (lTb T.1) e9) T.1 c o h1) : o = .inl none ∧ ∃ A', kRl A' (T.1 + 1, T.2) (nwTb M T.1 c) h1 ∧ kExt T A A' ∧ A' (lTb T.1) = q := by
  obtain ⟨ho, A', E', R, x, y, f0, f1, f2, f3⟩ := hP
  have nT := kLv_nT T
  have nn : ∀ l : kLb, kLv T l = true → l ≠ lTb T.1 ∧ l ≠ lTx T.1 ∧ l ≠ lTc T.1 ∧ l ≠ lTv T.1 := fun l g =>
    ⟨neV g nT, neV g nT, neV g nT, neV g nT⟩
  have xx : kExt T A A' := fun l g => (x l (lup_vt g)).trans (lup_ne (nn l g).1)
  refine ⟨ho, A', ⟨fun l l' g g' => ?_, fun l g => ?_⟩, xx, (x (lTb T.1) (lup_self _ _ _)).trans (lup_self _ _ _)⟩
  · have vv : ∀ l, kLv (T.1 + 1, T.2) l = true → lup (lup (lup (lup (kLv T) (lTb T.1) true) (lTx T.1) true) (lTc T.1) true) (lTv T.1) true l = true := by
      intro l g
      rcases kLv_spT g with g | rfl | rfl | rfl | rfl
      · exact lup_vt (lup_vt (lup_vt (lup_vt g)))
      · exact lup_vt (lup_vt (lup_vt (lup_self _ _ _)))
      · exact lup_vt (lup_vt (lup_self _ _ _))
      · exact lup_vt (lup_self _ _ _)
      · exact lup_self _ _ _
    exact R.1 l l' (vv l g) (vv l' g')
  · rcases kLv_spT g with g | rfl | rfl | rfl | rfl
    · rw [R.2 l (lup_vt (lup_vt (lup_vt (lup_vt g)))), y l (lup_vt g) (nn l g).1, lup_ne (nn l g).1, ← ment_ext hQ xx g]
      congr 1
      refine (ment_congr (M := M) (M' := nwTb M T.1 c) ?_ rfl (Or.inl rfl)).symm
      unfold nwTb
      rw [gp_sa_ne (nn l g).2.2.2, gp_sa_ne (nn l g).2.2.1, gp_sa_ne (nn l g).2.1, gp_sa_ne (nn l g).1]
    · rw [R.2 _ (lup_vt (lup_vt (lup_vt (lup_self _ _ _)))), f0]
      have e : gp (nwTb M T.1 c) (lTb T.1) = (fun k => if k = 0 then c else 0) := by
        unfold nwTb
        rw [gp_sa_ne (neF rfl), gp_sa_ne (neF rfl), gp_sa_ne (neF rfl), gp_sa]
      unfold ment
      rw [e]
      rfl
    · rw [R.2 _ (lup_vt (lup_vt (lup_self _ _ _))), f1]
      have e : gp (nwTb M T.1 c) (lTx T.1) = (fun k => 0) := by
        unfold nwTb
        rw [gp_sa_ne (neF rfl), gp_sa_ne (neF rfl), gp_sa]
      unfold ment
      rw [e]
      rfl
    · rw [R.2 _ (lup_vt (lup_self _ _ _)), f2]
      have e : gp (nwTb M T.1 c) (lTc T.1) = (fun k => 0) := by
        unfold nwTb
        rw [gp_sa_ne (neF rfl), gp_sa]
      unfold ment
      rw [e]
      rfl
    · rw [R.2 _ (lup_self _ _ _), f3]
      have e : gp (nwTb M T.1 c) (lTv T.1) = (fun k => 0) := by
        unfold nwTb
        rw [gp_sa]
      unfold ment
      rw [e]
      rfl
set_option maxHeartbeats 1000000 in
theorem newTm {A : kLb → Nat} {T : kT} {M : kM} {h1 : kH} {q : Nat} {o : kO} {e9 : kE} (hQ : kQl T M)
    (hP : IP_90 (lup A (lTm T.2) q) (lup (kLv T) (lTm T.2) true) (lup (ment A M) (lTm T.2) e9) T.2 o h1) : o = .inl none ∧ ∃ A', kRl A' (T.1, T.2 + 1) (nwTm M T.2) h1 ∧ kExt T A A' ∧ A' (lTm T.2) = q := by
  obtain ⟨ho, A', E', R, x, y, f0, f1, f2, f3, f4, f5⟩ := hP
  have nT := kLv_nM T
  have nn : ∀ l : kLb, kLv T l = true → l ≠ lTm T.2 ∧ l ≠ lPk T.2 ∧ l ≠ lRw T.2 ∧ l ≠ lKp T.2 ∧ l ≠ lKc T.2 ∧ l ≠ lKo T.2 := fun l g =>
    ⟨neV g nT, neV g nT, neV g nT, neV g nT, neV g nT, neV g nT⟩
  have xx : kExt T A A' := fun l g => (x l (lup_vt g)).trans (lup_ne (nn l g).1)
  refine ⟨ho, A', ⟨fun l l' g g' => ?_, fun l g => ?_⟩, xx, (x (lTm T.2) (lup_self _ _ _)).trans (lup_self _ _ _)⟩
  · have vv : ∀ l, kLv (T.1, T.2 + 1) l = true → (lup (lup (lup (lup (lup (lup (kLv T) (lTm T.2) true) (lPk T.2) true) (lRw T.2) true) (lKp T.2) true) (lKc T.2) true) (lKo T.2) true) l = true := by
      intro l g
      rcases kLv_spM g with g | rfl | rfl | rfl | rfl | rfl | rfl
      · exact lup_vt (lup_vt (lup_vt (lup_vt (lup_vt (lup_vt g)))))
      · exact lup_vt (lup_vt (lup_vt (lup_vt (lup_vt (lup_self _ _ _)))))
      · exact lup_vt (lup_vt (lup_vt (lup_vt (lup_self _ _ _))))
      · exact lup_vt (lup_vt (lup_vt (lup_self _ _ _)))
      · exact lup_vt (lup_vt (lup_self _ _ _))
      · exact lup_vt (lup_self _ _ _)
      · exact lup_self _ _ _
    exact R.1 l l' (vv l g) (vv l' g')
  · rcases kLv_spM g with g | rfl | rfl | rfl | rfl | rfl | rfl
    · rw [R.2 l (lup_vt (lup_vt (lup_vt (lup_vt (lup_vt (lup_vt g)))))), y l (lup_vt g) (nn l g).1, lup_ne (nn l g).1, ← ment_ext hQ xx g]
      congr 1
      refine (ment_congr (M := M) (M' := nwTm M T.2) ?_ ?_ (Or.inl rfl)).symm
      · unfold nwTm
        rw [gp_sqa, gp_sa_ne (nn l g).2.2.2.2.2, gp_sa_ne (nn l g).2.2.2.2.1, gp_sa_ne (nn l g).2.2.2.1, gp_sa_ne (nn l g).2.2.1, gp_sa_ne (nn l g).2.1, gp_sa_ne (nn l g).1]
      · unfold nwTm
        rw [gq_sqa_ne (nn l g).1]
        rfl
    · rw [R.2 _ (lup_vt (lup_vt (lup_vt (lup_vt (lup_vt (lup_self _ _ _)))))), f0]
      have e : gp (nwTm M T.2) (lTm T.2) = (fun k => 0) := by
        unfold nwTm
        rw [gp_sqa, gp_sa_ne (neF rfl), gp_sa_ne (neF rfl), gp_sa_ne (neF rfl), gp_sa_ne (neF rfl), gp_sa_ne (neF rfl), gp_sa]
      have e2 : gq (nwTm M T.2) (lTm T.2) = (fun k => none) := gq_sqa _ _ _
      unfold ment
      rw [e, e2]
      rfl
    · rw [R.2 _ (lup_vt (lup_vt (lup_vt (lup_vt (lup_self _ _ _))))), f1]
      have e : gp (nwTm M T.2) (lPk T.2) = (fun k => 0) := by
        unfold nwTm
        rw [gp_sqa, gp_sa_ne (neF rfl), gp_sa_ne (neF rfl), gp_sa_ne (neF rfl), gp_sa_ne (neF rfl), gp_sa]
      unfold ment
      rw [e]
      rfl
    · rw [R.2 _ (lup_vt (lup_vt (lup_vt (lup_self _ _ _)))), f2]
      have e : gp (nwTm M T.2) (lRw T.2) = (fun k => 0) := by
        unfold nwTm
        rw [gp_sqa, gp_sa_ne (neF rfl), gp_sa_ne (neF rfl), gp_sa_ne (neF rfl), gp_sa]
      unfold ment
      rw [e]
      rfl
    · rw [R.2 _ (lup_vt (lup_vt (lup_self _ _ _))), f3]
      have e : gp (nwTm M T.2) (lKp T.2) = (fun k => 0) := by
        unfold nwTm
        rw [gp_sqa, gp_sa_ne (neF rfl), gp_sa_ne (neF rfl), gp_sa]
      unfold ment
      rw [e]
      rfl
    · rw [R.2 _ (lup_vt (lup_self _ _ _)), f4]
      have e : gp (nwTm M T.2) (lKc T.2) = (fun k => 0) := by
        unfold nwTm
        rw [gp_sqa, gp_sa_ne (neF rfl), gp_sa]
      unfold ment
      rw [e]
      rfl
    · rw [R.2 _ (lup_self _ _ _), f5]
      have e : gp (nwTm M T.2) (lKo T.2) = (fun k => 0) := by
        unfold nwTm
        rw [gp_sqa, gp_sa]
      unfold ment
      rw [e]
      rfl
theorem va_up_map {α β : Type} (f : Nat → Option α) (i : Nat) (v : α) (g : α → β) : (fun k => (va_up f i (some v) k).map g) = va_up (fun k => (f k).map g) i (some (g v)) := by
  funext k
  unfold va_up
  split <;> rfl
theorem kRl_aB {A : kLb → Nat} {T : kT} {M : kM} {h h1 : kH} {i n : Nat} (R : kRl A T M h) (e : h1 = kset h (A lAl) (kAR 3 6 (va_up (fun k => (gq M lAl k).map fun j => A (lTb j)) i (some (A (lTb n)))))) : kRl A T (sq M lAl i (some n)) h1 :=
  kRl_sq R rfl (by rw [e]; show _ = kset h (A lAl) (kAR 3 6 (fun k => (va_up (gq M lAl) i (some n) k).map fun j => A (lTb j))); rw [va_up_map])
theorem kRl_aM {A : kLb → Nat} {T : kT} {M : kM} {h h1 : kH} {i n : Nat} (R : kRl A T M h) (e : h1 = kset h (A lTe) (kAR 4 60 (va_up (fun k => (gq M lTe k).map fun j => A (lTm j)) i (some (A (lTm n)))))) : kRl A T (sq M lTe i (some n)) h1 :=
  kRl_sq R rfl (by rw [e]; show _ = kset h (A lTe) (kAR 4 60 (fun k => (va_up (gq M lTe) i (some n) k).map fun j => A (lTm j))); rw [va_up_map])
/-! methods that make things: what they cost, and their outcomes -/
def kCc (T T' : kT) : Nat := 4 * (T'.1 - T.1) + 6 * (T'.2 - T.2)
def kCs (T T' : kT) : Nat := 492 * (T'.1 - T.1) + 1990 * (T'.2 - T.2)
theorem kCc_l {T T1 T2 : kT} {o mc : Nat} (l1 : kLe T T1) (l2 : kLe T1 T2) (h : kCc T T2 + o ≤ mc) : kCc T T1 ≤ mc := by
  unfold kCc at *
  obtain ⟨a1, a2⟩ := l1
  obtain ⟨b1, b2⟩ := l2
  omega
theorem kCc_r {T T1 T2 : kT} {o mc : Nat} (l1 : kLe T T1) (l2 : kLe T1 T2) (h : kCc T T2 + o ≤ mc) : kCc T1 T2 + o ≤ mc - kCc T T1 := by
  unfold kCc at *
  obtain ⟨a1, a2⟩ := l1
  obtain ⟨b1, b2⟩ := l2
  omega
theorem kCs_l {T T1 T2 : kT} {o mc : Nat} (l1 : kLe T T1) (l2 : kLe T1 T2) (h : kCs T T2 + o ≤ mc) : kCs T T1 ≤ mc := by
  unfold kCs at *
  obtain ⟨a1, a2⟩ := l1
  obtain ⟨b1, b2⟩ := l2
  omega
theorem kCs_r {T T1 T2 : kT} {o mc : Nat} (l1 : kLe T T1) (l2 : kLe T1 T2) (h : kCs T T2 + o ≤ mc) : kCs T1 T2 + o ≤ mc - kCs T T1 := by
  unfold kCs at *
  obtain ⟨a1, a2⟩ := l1
  obtain ⟨b1, b2⟩ := l2
  omega
theorem kCc_T (T : kT) : kCc T (T.1 + 1, T.2) = 4 := by unfold kCc; simp
theorem kCs_T (T : kT) : kCs T (T.1 + 1, T.2) = 492 := by unfold kCs; simp
theorem kCc_M (T : kT) : kCc T (T.1, T.2 + 1) = 6 := by unfold kCc; simp
theorem kCs_M (T : kT) : kCs T (T.1, T.2 + 1) = 1990 := by unfold kCs; simp
def kBt {α β : Type} (x : Option (α × kT × kM)) (f : α → kT → kM → Option β) : Option β := match x with
  | none => none
  | some z => f z.1 z.2.1 z.2.2
theorem kBt_el {α β : Type} {x : Option (α × kT × kM)} {f : α → kT → kM → Option β} {z : β} (hF : kBt x f = some z) : ∃ r T M, x = some (r, T, M) ∧ f r T M = some z := by
  cases x with
  | none => cases hF
  | some y => exact ⟨y.1, y.2.1, y.2.2, rfl, hF⟩
/-- the number of things made only grows -/
def kCh {α : Type} (T T1 : kT) (x : Option (α × kT × kM)) : Option (α × kT × kM) := if T.1 ≤ T1.1 ∧ T.2 ≤ T1.2 then (match x with
  | none => none
  | some z => if T1.1 ≤ z.2.1.1 ∧ T1.2 ≤ z.2.1.2 then some z else none) else none
theorem kCh_el {α : Type} {T T1 : kT} {x : Option (α × kT × kM)} {z : α × kT × kM} (hF : kCh T T1 x = some z) : kLe T T1 ∧ kLe T1 z.2.1 ∧ x = some z := by
  unfold kCh at hF
  split at hF
  · rename_i h1
    cases x with
    | none => cases hF
    | some y =>
      simp only at hF
      split at hF
      · rename_i h2
        obtain rfl := Option.some.inj hF
        exact ⟨h1, h2, rfl⟩
      · cases hF
  · cases hF
def kPAI (A : kLb → Nat) (T : kT) (z : Int32 × kT × kM) : kO → kH → Prop := fun o h1 => ∃ A', kRl A' z.2.1 z.2.2 h1 ∧ kExt T A A' ∧ o = .inl (some (.int z.1))
def kPAM (A : kLb → Nat) (T : kT) (z : Option Nat × kT × kM) : kO → kH → Prop := fun o h1 => ∃ A', kRl A' z.2.1 z.2.2 h1 ∧ kExt T A A' ∧ o = .inl (some (rTm A' z.1))
def kPATI (A : kLb → Nat) (T : kT) (z : (Nat ⊕ Int32) × kT × kM) : kO → kH → Prop := fun o h1 => ∃ A', kRl A' z.2.1 z.2.2 h1 ∧ kExt T A A' ∧ o = Sum.elim (fun E => .inr E) (fun v => .inl (some (.int v))) z.1
section KA
variable {G : kG} {y : Nat} {C : kCl} {P : kO → kH → Prop} {pc : Nat} {lo : kL} {st : List Value} {h : kH} {mc ms : Nat} {i y1 : Nat} {As st0 : List Value} {a ci : Nat} {fs : List Value} {A : kLb → Nat} {T T1 : kT} {M1 : kM}
theorem kca_I {r : Int32} (hd : kI y pc = some (.invokevirtual i, 3)) (hm : kMth (kCn y) i = some y1) (hk : kKin y1 = 1) (hn : As.length = kArg y1 + 1) (hst : st0 = As.reverse ++ st) (hAs : As[0]? = some (.ref a)) (ha : h a = some (kOb ci fs)) (hci : kRcv y1 = some ci) (hw : (st.map fun v => v.category).sum ≤ 8) (hC : C y1 As h (kCc T T1) (kCs T T1) (kPAI A T (r, T1, M1))) (hb1 : kCc T T1 ≤ mc) (hb2 : kCs T T1 ≤ ms)
    (k1 : ∀ A' h1, kRl A' T1 M1 h1 → kExt T A A' → kWP G y C P (pc + 3) lo (.int r :: st) h1 (mc - kCc T T1) (ms - kCs T T1)) : kWP G y C P pc lo st0 h mc ms :=
  k_callv (mc1 := kCc T T1) (ms1 := kCs T T1) (mc2 := mc - kCc T T1) (ms2 := ms - kCs T T1) hd hm hk hn hst hAs ha hci hw hC (fun E h1 z => by obtain ⟨_, _, _, e⟩ := z; cases e) (by omega) (by omega) (fun v h1 hP => by obtain ⟨A', R, x, e⟩ := hP; cases e; exact k1 A' h1 R x)
theorem kca_M {r : Option Nat} (hd : kI y pc = some (.invokevirtual i, 3)) (hm : kMth (kCn y) i = some y1) (hk : kKin y1 = 1) (hn : As.length = kArg y1 + 1) (hst : st0 = As.reverse ++ st) (hAs : As[0]? = some (.ref a)) (ha : h a = some (kOb ci fs)) (hci : kRcv y1 = some ci) (hw : (st.map fun v => v.category).sum ≤ 8) (hC : C y1 As h (kCc T T1) (kCs T T1) (kPAM A T (r, T1, M1))) (hb1 : kCc T T1 ≤ mc) (hb2 : kCs T T1 ≤ ms)
    (k1 : ∀ A' h1, kRl A' T1 M1 h1 → kExt T A A' → kWP G y C P (pc + 3) lo (rTm A' r :: st) h1 (mc - kCc T T1) (ms - kCs T T1)) : kWP G y C P pc lo st0 h mc ms :=
  k_callv (mc1 := kCc T T1) (ms1 := kCs T T1) (mc2 := mc - kCc T T1) (ms2 := ms - kCs T T1) hd hm hk hn hst hAs ha hci hw hC (fun E h1 z => by obtain ⟨_, _, _, e⟩ := z; cases e) (by omega) (by omega) (fun v h1 hP => by obtain ⟨A', R, x, e⟩ := hP; cases e; exact k1 A' h1 R x)
/-- the law's wrappers: a call that may throw -/
theorem kcx_I {r : Nat ⊕ Int32} (hd : kI y pc = some (.invokevirtual i, 3)) (hm : kMth (kCn y) i = some y1) (hk : kKin y1 = 1) (hn : As.length = kArg y1 + 1) (hst : st0 = As.reverse ++ st) (hAs : As[0]? = some (.ref a)) (ha : h a = some (kOb ci fs)) (hci : kRcv y1 = some ci) (hpl : kCls (kCn y1) = "RelationDesk") (hlw : kCls (kCn y) = "RelationDeskLaw") (hdl : ∀ E, r = .inl E → ∃ hp, kHan y pc E = some hp) (hw : (st.map fun v => v.category).sum ≤ 8) (hC : C y1 As h 1 6 (kPTI A T (r, M1))) (hb1 : 1 ≤ mc) (hb2 : 6 ≤ ms)
    (k1 : ∀ v h1, r = .inr v → kRl A T M1 h1 → kWP G y C P (pc + 3) lo (.int v :: st) h1 (mc - 1) (ms - 6)) (k2 : ∀ E q hp h1, r = .inl E → kHan y pc E = some hp → kRl A T M1 h1 → kWP G y C P hp lo [.ref q] h1 (mc - 1) (ms - 6)) : kWP G y C P pc lo st0 h mc ms :=
  k_callx (mc1 := 1) (ms1 := 6) (mc2 := mc - 1) (ms2 := ms - 6) hd hm hk hn hst hAs ha hci hpl hlw (fun E h1 z => by
    obtain ⟨e, _⟩ := z
    cases r with
    | inl E' => cases e; exact hdl E rfl
    | inr v => cases e) hw hC (by omega) (by omega) (fun v h1 hP => by
    obtain ⟨e, R⟩ := hP
    cases r with
    | inl E' => cases e
    | inr w => cases e; exact k1 w h1 rfl R) (fun E q hp h1 hP hh => by
    obtain ⟨e, R⟩ := hP
    cases r with
    | inl E' => cases e; exact k2 E q hp h1 rfl hh R
    | inr w => cases e)
theorem kcx_V {r : Nat ⊕ Unit} (hd : kI y pc = some (.invokevirtual i, 3)) (hm : kMth (kCn y) i = some y1) (hk : kKin y1 = 1) (hn : As.length = kArg y1 + 1) (hst : st0 = As.reverse ++ st) (hAs : As[0]? = some (.ref a)) (ha : h a = some (kOb ci fs)) (hci : kRcv y1 = some ci) (hpl : kCls (kCn y1) = "RelationDesk") (hlw : kCls (kCn y) = "RelationDeskLaw") (hdl : ∀ E, r = .inl E → ∃ hp, kHan y pc E = some hp) (hw : (st.map fun v => v.category).sum ≤ 8) (hC : C y1 As h 1 6 (kPTV A T (r, M1))) (hb1 : 1 ≤ mc) (hb2 : 6 ≤ ms)
    (k1 : ∀ v h1, r = .inr v → kRl A T M1 h1 → kWP G y C P (pc + 3) lo st h1 (mc - 1) (ms - 6)) (k2 : ∀ E q hp h1, r = .inl E → kHan y pc E = some hp → kRl A T M1 h1 → kWP G y C P hp lo [.ref q] h1 (mc - 1) (ms - 6)) : kWP G y C P pc lo st0 h mc ms :=
  k_callx (mc1 := 1) (ms1 := 6) (mc2 := mc - 1) (ms2 := ms - 6) hd hm hk hn hst hAs ha hci hpl hlw (fun E h1 z => by
    obtain ⟨e, _⟩ := z
    cases r with
    | inl E' => cases e; exact hdl E rfl
    | inr v => cases e) hw hC (by omega) (by omega) (fun v h1 hP => by
    obtain ⟨e, R⟩ := hP
    cases r with
    | inl E' => cases e
    | inr w => cases e; exact k1 w h1 rfl R) (fun E q hp h1 hP hh => by
    obtain ⟨e, R⟩ := hP
    cases r with
    | inl E' => cases e; exact k2 E q hp h1 rfl hh R
    | inr w => cases e)
theorem kcxa_I {r : Nat ⊕ Int32} (hd : kI y pc = some (.invokevirtual i, 3)) (hm : kMth (kCn y) i = some y1) (hk : kKin y1 = 1) (hn : As.length = kArg y1 + 1) (hst : st0 = As.reverse ++ st) (hAs : As[0]? = some (.ref a)) (ha : h a = some (kOb ci fs)) (hci : kRcv y1 = some ci) (hpl : kCls (kCn y1) = "RelationDesk") (hlw : kCls (kCn y) = "RelationDeskLaw") (hdl : ∀ E, r = .inl E → ∃ hp, kHan y pc E = some hp) (hw : (st.map fun v => v.category).sum ≤ 8) (hC : C y1 As h (kCc T T1 + 1) (kCs T T1 + 6) (kPATI A T (r, T1, M1))) (hb1 : kCc T T1 + 1 ≤ mc) (hb2 : kCs T T1 + 6 ≤ ms)
    (k1 : ∀ v A' h1, r = .inr v → kRl A' T1 M1 h1 → kExt T A A' → kWP G y C P (pc + 3) lo (.int v :: st) h1 (mc - (kCc T T1 + 1)) (ms - (kCs T T1 + 6))) (k2 : ∀ E q hp A' h1, r = .inl E → kHan y pc E = some hp → kRl A' T1 M1 h1 → kExt T A A' → kWP G y C P hp lo [.ref q] h1 (mc - (kCc T T1 + 1)) (ms - (kCs T T1 + 6))) : kWP G y C P pc lo st0 h mc ms :=
  k_callx (mc1 := kCc T T1 + 1) (ms1 := kCs T T1 + 6) (mc2 := mc - (kCc T T1 + 1)) (ms2 := ms - (kCs T T1 + 6)) hd hm hk hn hst hAs ha hci hpl hlw (fun E h1 z => by
    obtain ⟨_, _, _, e⟩ := z
    cases r with
    | inl E' => cases e; exact hdl E rfl
    | inr v => cases e) hw hC (by omega) (by omega) (fun v h1 hP => by
    obtain ⟨A', R, x, e⟩ := hP
    cases r with
    | inl E' => cases e
    | inr w => cases e; exact k1 w A' h1 rfl R x) (fun E q hp h1 hP hh => by
    obtain ⟨A', R, x, e⟩ := hP
    cases r with
    | inl E' => cases e; exact k2 E q hp A' h1 rfl hh R x
    | inr w => cases e)
/-- the law: calls of its wrappers, paid -/
theorem kcw_I {r : Int32} (hd : kI y pc = some (.invokestatic i, 3)) (hm : kMth (kCn y) i = some y1) (hk : kKin y1 = 0) (hn : As.length = kArg y1) (hst : st0 = As.reverse ++ st) (hw : (st.map fun v => v.category).sum ≤ 8) (hC : C y1 As h 1 6 (kPI A T (r, M1))) (hb1 : 1 ≤ mc) (hb2 : 6 ≤ ms)
    (k1 : ∀ h1, kRl A T M1 h1 → kWP G y C P (pc + 3) lo (.int r :: st) h1 (mc - 1) (ms - 6)) : kWP G y C P pc lo st0 h mc ms :=
  k_calls (mc1 := 1) (ms1 := 6) (mc2 := mc - 1) (ms2 := ms - 6) hd hm hk hn hst hw hC (fun E h1 z => by cases z.1) (by omega) (by omega) (fun v h1 hP => by obtain ⟨e, R⟩ := hP; cases e; exact k1 h1 R)
theorem kcwa_I {r : Int32} (hd : kI y pc = some (.invokestatic i, 3)) (hm : kMth (kCn y) i = some y1) (hk : kKin y1 = 0) (hn : As.length = kArg y1) (hst : st0 = As.reverse ++ st) (hw : (st.map fun v => v.category).sum ≤ 8) (hC : C y1 As h (kCc T T1 + 1) (kCs T T1 + 6) (kPAI A T (r, T1, M1))) (hb1 : kCc T T1 + 1 ≤ mc) (hb2 : kCs T T1 + 6 ≤ ms)
    (k1 : ∀ A' h1, kRl A' T1 M1 h1 → kExt T A A' → kWP G y C P (pc + 3) lo (.int r :: st) h1 (mc - (kCc T T1 + 1)) (ms - (kCs T T1 + 6))) : kWP G y C P pc lo st0 h mc ms :=
  k_calls (mc1 := kCc T T1 + 1) (ms1 := kCs T T1 + 6) (mc2 := mc - (kCc T T1 + 1)) (ms2 := ms - (kCs T T1 + 6)) hd hm hk hn hst hw hC (fun E h1 z => by obtain ⟨_, _, _, e⟩ := z; cases e) (by omega) (by omega) (fun v h1 hP => by obtain ⟨A', R, x, e⟩ := hP; cases e; exact k1 A' h1 R x)
end KA
