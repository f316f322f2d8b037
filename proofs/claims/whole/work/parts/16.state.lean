/-! the labelled memory: every object and array has a label (family, number); what lies there is a function of the label -/
abbrev kLb : Type := Nat × Nat
abbrev kM : Type := (kLb → Nat → Int32) × (kLb → Nat → Option Nat) × (Nat → Int64)
/-- how many tables and how many terms have been made -/
abbrev kT : Type := Nat × Nat
abbrev lD : kLb := (0, 0)
abbrev lTs : kLb := (1, 0)
abbrev lAl : kLb := (2, 0)
abbrev lHa : kLb := (3, 0)
abbrev lRd : kLb := (4, 0)
abbrev lWo : kLb := (5, 0)
abbrev lTe : kLb := (6, 0)
abbrev lRu : kLb := (7, 0)
abbrev lLa : kLb := (8, 0)
abbrev lOu : kLb := (9, 0)
abbrev lMo : kLb := (10, 0)
abbrev lTb (j : Nat) : kLb := (11, j)
abbrev lTx (j : Nat) : kLb := (12, j)
abbrev lTc (j : Nat) : kLb := (13, j)
abbrev lTv (j : Nat) : kLb := (14, j)
abbrev lTm (i : Nat) : kLb := (15, i)
abbrev lPk (i : Nat) : kLb := (16, i)
abbrev lRw (i : Nat) : kLb := (17, i)
abbrev lKp (i : Nat) : kLb := (18, i)
abbrev lKc (i : Nat) : kLb := (19, i)
abbrev lKo (i : Nat) : kLb := (20, i)
abbrev lMa (k : Nat) : kLb := (21, k)
def gp (M : kM) (l : kLb) : Nat → Int32 := M.1 l
def gq (M : kM) (l : kLb) : Nat → Option Nat := M.2.1 l
def go (M : kM) : Nat → Int64 := M.2.2
def sa (M : kM) (l : kLb) (f : Nat → Int32) : kM := (fun l' => if l' = l then f else M.1 l', M.2)
def sp (M : kM) (l : kLb) (k : Nat) (v : Int32) : kM := sa M l (upd (gp M l) k v)
def sq (M : kM) (l : kLb) (k : Nat) (v : Option Nat) : kM := (M.1, fun l' => if l' = l then va_up (gq M l) k v else M.2.1 l', M.2.2)
def so (M : kM) (k : Nat) (v : Int64) : kM := (M.1, M.2.1, vp_updL (go M) k v)
theorem gp_sa (M : kM) (l : kLb) (f : Nat → Int32) : gp (sa M l f) l = f := if_pos rfl
theorem gp_sa_ne {M : kM} {l l' : kLb} {f : Nat → Int32} (hn : l' ≠ l) : gp (sa M l f) l' = gp M l' := if_neg hn
theorem gq_sa (M : kM) (l l' : kLb) (f : Nat → Int32) : gq (sa M l f) l' = gq M l' := rfl
theorem go_sa (M : kM) (l : kLb) (f : Nat → Int32) : go (sa M l f) = go M := rfl
theorem gp_sp (M : kM) (l : kLb) (k : Nat) (v : Int32) : gp (sp M l k v) l = upd (gp M l) k v := if_pos rfl
theorem gp_sp_ne {M : kM} {l l' : kLb} {k : Nat} {v : Int32} (hn : l' ≠ l) : gp (sp M l k v) l' = gp M l' := if_neg hn
theorem gq_sp (M : kM) (l l' : kLb) (k : Nat) (v : Int32) : gq (sp M l k v) l' = gq M l' := rfl
theorem go_sp (M : kM) (l : kLb) (k : Nat) (v : Int32) : go (sp M l k v) = go M := rfl
theorem gq_sq (M : kM) (l : kLb) (k : Nat) (v : Option Nat) : gq (sq M l k v) l = va_up (gq M l) k v := if_pos rfl
theorem gq_sq_ne {M : kM} {l l' : kLb} {k : Nat} {v : Option Nat} (hn : l' ≠ l) : gq (sq M l k v) l' = gq M l' := if_neg hn
theorem gp_sq (M : kM) (l l' : kLb) (k : Nat) (v : Option Nat) : gp (sq M l k v) l' = gp M l' := rfl
theorem go_sq (M : kM) (l : kLb) (k : Nat) (v : Option Nat) : go (sq M l k v) = go M := rfl
theorem gp_so (M : kM) (l : kLb) (k : Nat) (v : Int64) : gp (so M k v) l = gp M l := rfl
theorem gq_so (M : kM) (l : kLb) (k : Nat) (v : Int64) : gq (so M k v) l = gq M l := rfl
theorem go_so (M : kM) (k : Nat) (v : Int64) : go (so M k v) = vp_updL (go M) k v := rfl
/-- a table or a term, or null -/
def rTb (A : kLb → Nat) (e : Option Nat) : Value := va_rf (e.map fun j => A (lTb j))
def rTm (A : kLb → Nat) (e : Option Nat) : Value := va_rf (e.map fun i => A (lTm i))
/-- the reference's arrays: lengths by field -/
def mlen (k : Nat) : Nat := match k with
  | 2 => 6
  | 3 => 36
  | 4 => 6
  | 5 => 1440
  | 6 => 6
  | 9 => 6
  | 10 => 1440
  | 12 => 60
  | 13 => 60
  | 17 => 60
  | 18 => 60
  | 19 => 60
  | 20 => 60
  | 21 => 60
  | 26 => 60
  | 27 => 108000
  | 28 => 720
  | 29 => 720
  | 30 => 12
  | 32 => 60
  | 33 => 60
  | 34 => 60
  | 38 => 60
  | 39 => 60
  | _ => 0
def mbool (k : Nat) : Bool := k == 3 || k == 39
def mentG (A : kLb → Nat) (P : Nat → Int32) (Q : Nat → Option Nat) (O : Nat → Int64) (l : kLb) : kE := match l.1 with
  | 0 => kOb 0 [.ref (A lTs), .ref (A lHa), .ref (A lRd), .ref (A lRu), .ref (A lLa), .int (P 5), rTm A (Q 6)]
  | 1 => kOb 5 [.ref (A lAl), .int (P 1), .int (P 2), .int (P 3)]
  | 2 => kAR 3 6 (fun k => (Q k).map fun j => A (lTb j))
  | 3 => kAI 0 6 P
  | 4 => kOb 2 [.ref (A lWo), .int (P 1), .int (P 2), .int (P 3), .ref (A lTe), .int (P 5)]
  | 5 => kAI 0 60 P
  | 6 => kAR 4 60 (fun k => (Q k).map fun j => A (lTm j))
  | 7 => kOb 3 [.int (P 0), .int (P 1)]
  | 8 => kAI 0 12 P
  | 9 => if l.2 = 0 then kAJ 2 1 O else kAJ 2 1 (fun _ => 0)
  | 10 => kOb 7 [.int (P 0), .int (P 1), .ref (A (lMa 2)), .ref (A (lMa 3)), .ref (A (lMa 4)), .ref (A (lMa 5)), .ref (A (lMa 6)), .int (P 7), .int (P 8), .ref (A (lMa 9)), .ref (A (lMa 10)), .int (P 11), .ref (A (lMa 12)), .ref (A (lMa 13)), .int (P 14), .int (P 15), .int (P 16), .ref (A (lMa 17)), .ref (A (lMa 18)), .ref (A (lMa 19)), .ref (A (lMa 20)), .ref (A (lMa 21)), .int (P 22), .int (P 23), .int (P 24), .int (P 25), .ref (A (lMa 26)), .ref (A (lMa 27)), .ref (A (lMa 28)), .ref (A (lMa 29)), .ref (A (lMa 30)), .int (P 31), .ref (A (lMa 32)), .ref (A (lMa 33)), .ref (A (lMa 34)), .int (P 35), .int (P 36), .int (P 37), .ref (A (lMa 38)), .ref (A (lMa 39))]
  | 11 => kOb 4 [.int (P 0), .ref (A (lTx l.2)), .ref (A (lTc l.2)), .ref (A (lTv l.2)), .int (P 4), .int (P 5)]
  | 12 => kAI 1 6 P
  | 13 => kAI 0 240 P
  | 14 => kAI 0 240 P
  | 15 => kOb 6 [.int (P 0), .int (P 1), .int (P 2), .int (P 3), .int (P 4), .ref (A (lPk l.2)), rTb A (Q 6), rTm A (Q 7), rTm A (Q 8), .int (P 9), .ref (A (lRw l.2)), .ref (A (lKp l.2)), .int (P 12), .int (P 13), .int (P 14), .int (P 15)]
  | 16 => kAI 0 8 P
  | 17 => kAI 0 12 P
  | 18 => kOb 1 [.ref (A (lKc l.2)), .ref (A (lKo l.2)), .int (P 2), .int (P 3)]
  | 19 => kAI 0 1800 P
  | 20 => kAI 0 150 P
  | 21 => kAI (if mbool l.2 = true then 1 else 0) (mlen l.2) P
  | _ => kAI 0 0 P
/-- what lies at a label -/
def ment (A : kLb → Nat) (M : kM) (l : kLb) : kE := mentG A (gp M l) (gq M l) (go M) l
/-- is there something at the label -/
def kLv (T : kT) (l : kLb) : Bool := match l.1 with
  | 11 => decide (l.2 < T.1)
  | 12 => decide (l.2 < T.1)
  | 13 => decide (l.2 < T.1)
  | 14 => decide (l.2 < T.1)
  | 15 => decide (l.2 < T.2)
  | 16 => decide (l.2 < T.2)
  | 17 => decide (l.2 < T.2)
  | 18 => decide (l.2 < T.2)
  | 19 => decide (l.2 < T.2)
  | 20 => decide (l.2 < T.2)
  | 21 => decide (mlen l.2 ≠ 0)
  | f => decide (f ≤ 10) && decide (l.2 = 0)
/-- lengths of int arrays -/
def klen (l : kLb) : Nat := match l.1 with
  | 3 => 6
  | 5 => 60
  | 8 => 12
  | 13 => 240
  | 14 => 240
  | 16 => 8
  | 17 => 12
  | 19 => 1800
  | 20 => 150
  | 21 => mlen l.2
  | _ => 0
def kisI (l : kLb) : Bool := match l.1 with
  | 3 => true
  | 5 => true
  | 8 => true
  | 13 => true
  | 14 => true
  | 16 => true
  | 17 => true
  | 19 => true
  | 20 => true
  | 21 => !mbool l.2
  | _ => false
/-- the heap holds the memory, at these addresses -/
def kRl (A : kLb → Nat) (T : kT) (M : kM) (h : kH) : Prop := (∀ l l', kLv T l = true → kLv T l' = true → A l = A l' → l = l') ∧ ∀ l, kLv T l = true → h (A l) = some (ment A M l)
theorem rdL {A : kLb → Nat} {T : kT} {M : kM} {h : kH} (R : kRl A T M h) (l : kLb) (g : kLv T l = true) : h (A l) = some (ment A M l) := R.2 l g
theorem ment_congr {A : kLb → Nat} {M M' : kM} {l : kLb} (h1 : gp M' l = gp M l) (h2 : gq M' l = gq M l) (h3 : go M' = go M ∨ l.1 ≠ 9) : ment A M' l = ment A M l := by
  unfold ment
  rw [h1, h2]
  rcases h3 with h3 | h3
  · rw [h3]
  · unfold mentG
    split <;> first | rfl | (rename_i z; exact absurd z h3)
theorem kRl_up {A : kLb → Nat} {T : kT} {M M' : kM} {h h1 : kH} {l : kLb} (R : kRl A T M h) (g : kLv T l = true) (hne : ∀ l', l' ≠ l → ment A M' l' = ment A M l') (e : h1 = kset h (A l) (ment A M' l)) : kRl A T M' h1 := by
  refine ⟨R.1, fun l' g' => ?_⟩
  by_cases hl : l' = l
  · rw [hl, e, kset_self]
  · rw [e, kset_ne (fun z => hl (R.1 _ _ g' g z)), R.2 l' g', hne l' hl]
theorem kRl_sa {A : kLb → Nat} {T : kT} {M : kM} {h h1 : kH} {l : kLb} {f : Nat → Int32} (R : kRl A T M h) (g : kLv T l = true) (e : h1 = kset h (A l) (mentG A f (gq M l) (go M) l)) : kRl A T (sa M l f) h1 :=
  kRl_up R g (fun l' hl => ment_congr (gp_sa_ne hl) rfl (Or.inl rfl)) (by rw [e]; unfold ment; rw [gp_sa]; rfl)
theorem kRl_sp {A : kLb → Nat} {T : kT} {M : kM} {h h1 : kH} {l : kLb} {k : Nat} {v : Int32} (R : kRl A T M h) (g : kLv T l = true) (e : h1 = kset h (A l) (mentG A (upd (gp M l) k v) (gq M l) (go M) l)) : kRl A T (sp M l k v) h1 := kRl_sa R g e
theorem kRl_sq {A : kLb → Nat} {T : kT} {M : kM} {h h1 : kH} {l : kLb} {k : Nat} {v : Option Nat} (R : kRl A T M h) (g : kLv T l = true) (e : h1 = kset h (A l) (mentG A (gp M l) (va_up (gq M l) k v) (go M) l)) : kRl A T (sq M l k v) h1 :=
  kRl_up R g (fun l' hl => ment_congr rfl (gq_sq_ne hl) (Or.inl rfl)) (by rw [e]; unfold ment; rw [gq_sq]; rfl)
theorem kRl_so {A : kLb → Nat} {T : kT} {M : kM} {h h1 : kH} {k : Nat} {v : Int64} (R : kRl A T M h) (e : h1 = kset h (A lOu) (kAJ 2 1 (vp_updL (go M) k v))) : kRl A T (so M k v) h1 :=
  kRl_up (l := lOu) R rfl (fun l' hl => by
    by_cases h9 : l'.1 = 9
    · by_cases g0 : l'.2 = 0
      · exact absurd (Prod.ext h9 g0) hl
      · unfold ment mentG
        rw [h9]
        simp only [g0, if_false]
    · exact ment_congr rfl rfl (Or.inr h9)) e
theorem rd_D {A : kLb → Nat} {T : kT} {M : kM} {h : kH} (R : kRl A T M h) : h (A lD) = some (kOb 0 [.ref (A lTs), .ref (A lHa), .ref (A lRd), .ref (A lRu), .ref (A lLa), .int (gp M lD 5), rTm A (gq M lD 6)]) := rdL R lD rfl
theorem rd_Ts {A : kLb → Nat} {T : kT} {M : kM} {h : kH} (R : kRl A T M h) : h (A lTs) = some (kOb 5 [.ref (A lAl), .int (gp M lTs 1), .int (gp M lTs 2), .int (gp M lTs 3)]) := rdL R lTs rfl
theorem rd_Al {A : kLb → Nat} {T : kT} {M : kM} {h : kH} (R : kRl A T M h) : h (A lAl) = some (kAR 3 6 (fun k => (gq M lAl k).map fun j => A (lTb j))) := rdL R lAl rfl
theorem rd_Ha {A : kLb → Nat} {T : kT} {M : kM} {h : kH} (R : kRl A T M h) : h (A lHa) = some (kAI 0 6 (gp M lHa)) := rdL R lHa rfl
theorem rd_Rd {A : kLb → Nat} {T : kT} {M : kM} {h : kH} (R : kRl A T M h) : h (A lRd) = some (kOb 2 [.ref (A lWo), .int (gp M lRd 1), .int (gp M lRd 2), .int (gp M lRd 3), .ref (A lTe), .int (gp M lRd 5)]) := rdL R lRd rfl
theorem rd_Wo {A : kLb → Nat} {T : kT} {M : kM} {h : kH} (R : kRl A T M h) : h (A lWo) = some (kAI 0 60 (gp M lWo)) := rdL R lWo rfl
theorem rd_Te {A : kLb → Nat} {T : kT} {M : kM} {h : kH} (R : kRl A T M h) : h (A lTe) = some (kAR 4 60 (fun k => (gq M lTe k).map fun j => A (lTm j))) := rdL R lTe rfl
theorem rd_Ru {A : kLb → Nat} {T : kT} {M : kM} {h : kH} (R : kRl A T M h) : h (A lRu) = some (kOb 3 [.int (gp M lRu 0), .int (gp M lRu 1)]) := rdL R lRu rfl
theorem rd_La {A : kLb → Nat} {T : kT} {M : kM} {h : kH} (R : kRl A T M h) : h (A lLa) = some (kAI 0 12 (gp M lLa)) := rdL R lLa rfl
theorem rd_Ou {A : kLb → Nat} {T : kT} {M : kM} {h : kH} (R : kRl A T M h) : h (A lOu) = some (kAJ 2 1 (go M)) := rdL R lOu rfl
theorem rd_Mo {A : kLb → Nat} {T : kT} {M : kM} {h : kH} (R : kRl A T M h) : h (A lMo) = some (kOb 7 [.int (gp M lMo 0), .int (gp M lMo 1), .ref (A (lMa 2)), .ref (A (lMa 3)), .ref (A (lMa 4)), .ref (A (lMa 5)), .ref (A (lMa 6)), .int (gp M lMo 7), .int (gp M lMo 8), .ref (A (lMa 9)), .ref (A (lMa 10)), .int (gp M lMo 11), .ref (A (lMa 12)), .ref (A (lMa 13)), .int (gp M lMo 14), .int (gp M lMo 15), .int (gp M lMo 16), .ref (A (lMa 17)), .ref (A (lMa 18)), .ref (A (lMa 19)), .ref (A (lMa 20)), .ref (A (lMa 21)), .int (gp M lMo 22), .int (gp M lMo 23), .int (gp M lMo 24), .int (gp M lMo 25), .ref (A (lMa 26)), .ref (A (lMa 27)), .ref (A (lMa 28)), .ref (A (lMa 29)), .ref (A (lMa 30)), .int (gp M lMo 31), .ref (A (lMa 32)), .ref (A (lMa 33)), .ref (A (lMa 34)), .int (gp M lMo 35), .int (gp M lMo 36), .int (gp M lMo 37), .ref (A (lMa 38)), .ref (A (lMa 39))]) := rdL R lMo rfl
theorem rd_Tb {A : kLb → Nat} {T : kT} {M : kM} {h : kH} (R : kRl A T M h) {i : Nat} (g : kLv T (lTb i) = true) : h (A (lTb i)) = some (kOb 4 [.int (gp M (lTb i) 0), .ref (A (lTx i)), .ref (A (lTc i)), .ref (A (lTv i)), .int (gp M (lTb i) 4), .int (gp M (lTb i) 5)]) := rdL R (lTb i) g
theorem rd_Tx {A : kLb → Nat} {T : kT} {M : kM} {h : kH} (R : kRl A T M h) {i : Nat} (g : kLv T (lTx i) = true) : h (A (lTx i)) = some (kAI 1 6 (gp M (lTx i))) := rdL R (lTx i) g
theorem rd_Tc {A : kLb → Nat} {T : kT} {M : kM} {h : kH} (R : kRl A T M h) {i : Nat} (g : kLv T (lTc i) = true) : h (A (lTc i)) = some (kAI 0 240 (gp M (lTc i))) := rdL R (lTc i) g
theorem rd_Tv {A : kLb → Nat} {T : kT} {M : kM} {h : kH} (R : kRl A T M h) {i : Nat} (g : kLv T (lTv i) = true) : h (A (lTv i)) = some (kAI 0 240 (gp M (lTv i))) := rdL R (lTv i) g
theorem rd_Tm {A : kLb → Nat} {T : kT} {M : kM} {h : kH} (R : kRl A T M h) {i : Nat} (g : kLv T (lTm i) = true) : h (A (lTm i)) = some (kOb 6 [.int (gp M (lTm i) 0), .int (gp M (lTm i) 1), .int (gp M (lTm i) 2), .int (gp M (lTm i) 3), .int (gp M (lTm i) 4), .ref (A (lPk i)), rTb A (gq M (lTm i) 6), rTm A (gq M (lTm i) 7), rTm A (gq M (lTm i) 8), .int (gp M (lTm i) 9), .ref (A (lRw i)), .ref (A (lKp i)), .int (gp M (lTm i) 12), .int (gp M (lTm i) 13), .int (gp M (lTm i) 14), .int (gp M (lTm i) 15)]) := rdL R (lTm i) g
theorem rd_Pk {A : kLb → Nat} {T : kT} {M : kM} {h : kH} (R : kRl A T M h) {i : Nat} (g : kLv T (lPk i) = true) : h (A (lPk i)) = some (kAI 0 8 (gp M (lPk i))) := rdL R (lPk i) g
theorem rd_Rw {A : kLb → Nat} {T : kT} {M : kM} {h : kH} (R : kRl A T M h) {i : Nat} (g : kLv T (lRw i) = true) : h (A (lRw i)) = some (kAI 0 12 (gp M (lRw i))) := rdL R (lRw i) g
theorem rd_Kp {A : kLb → Nat} {T : kT} {M : kM} {h : kH} (R : kRl A T M h) {i : Nat} (g : kLv T (lKp i) = true) : h (A (lKp i)) = some (kOb 1 [.ref (A (lKc i)), .ref (A (lKo i)), .int (gp M (lKp i) 2), .int (gp M (lKp i) 3)]) := rdL R (lKp i) g
theorem rd_Kc {A : kLb → Nat} {T : kT} {M : kM} {h : kH} (R : kRl A T M h) {i : Nat} (g : kLv T (lKc i) = true) : h (A (lKc i)) = some (kAI 0 1800 (gp M (lKc i))) := rdL R (lKc i) g
theorem rd_Ko {A : kLb → Nat} {T : kT} {M : kM} {h : kH} (R : kRl A T M h) {i : Nat} (g : kLv T (lKo i) = true) : h (A (lKo i)) = some (kAI 0 150 (gp M (lKo i))) := rdL R (lKo i) g
theorem rd_Ma_2 {A : kLb → Nat} {T : kT} {M : kM} {h : kH} (R : kRl A T M h) : h (A (lMa 2)) = some (kAI 0 6 (gp M (lMa 2))) := rdL R (lMa 2) rfl
theorem rd_Ma_3 {A : kLb → Nat} {T : kT} {M : kM} {h : kH} (R : kRl A T M h) : h (A (lMa 3)) = some (kAI 1 36 (gp M (lMa 3))) := rdL R (lMa 3) rfl
theorem rd_Ma_4 {A : kLb → Nat} {T : kT} {M : kM} {h : kH} (R : kRl A T M h) : h (A (lMa 4)) = some (kAI 0 6 (gp M (lMa 4))) := rdL R (lMa 4) rfl
theorem rd_Ma_5 {A : kLb → Nat} {T : kT} {M : kM} {h : kH} (R : kRl A T M h) : h (A (lMa 5)) = some (kAI 0 1440 (gp M (lMa 5))) := rdL R (lMa 5) rfl
theorem rd_Ma_6 {A : kLb → Nat} {T : kT} {M : kM} {h : kH} (R : kRl A T M h) : h (A (lMa 6)) = some (kAI 0 6 (gp M (lMa 6))) := rdL R (lMa 6) rfl
theorem rd_Ma_9 {A : kLb → Nat} {T : kT} {M : kM} {h : kH} (R : kRl A T M h) : h (A (lMa 9)) = some (kAI 0 6 (gp M (lMa 9))) := rdL R (lMa 9) rfl
theorem rd_Ma_10 {A : kLb → Nat} {T : kT} {M : kM} {h : kH} (R : kRl A T M h) : h (A (lMa 10)) = some (kAI 0 1440 (gp M (lMa 10))) := rdL R (lMa 10) rfl
theorem rd_Ma_12 {A : kLb → Nat} {T : kT} {M : kM} {h : kH} (R : kRl A T M h) : h (A (lMa 12)) = some (kAI 0 60 (gp M (lMa 12))) := rdL R (lMa 12) rfl
theorem rd_Ma_13 {A : kLb → Nat} {T : kT} {M : kM} {h : kH} (R : kRl A T M h) : h (A (lMa 13)) = some (kAI 0 60 (gp M (lMa 13))) := rdL R (lMa 13) rfl
theorem rd_Ma_17 {A : kLb → Nat} {T : kT} {M : kM} {h : kH} (R : kRl A T M h) : h (A (lMa 17)) = some (kAI 0 60 (gp M (lMa 17))) := rdL R (lMa 17) rfl
theorem rd_Ma_18 {A : kLb → Nat} {T : kT} {M : kM} {h : kH} (R : kRl A T M h) : h (A (lMa 18)) = some (kAI 0 60 (gp M (lMa 18))) := rdL R (lMa 18) rfl
theorem rd_Ma_19 {A : kLb → Nat} {T : kT} {M : kM} {h : kH} (R : kRl A T M h) : h (A (lMa 19)) = some (kAI 0 60 (gp M (lMa 19))) := rdL R (lMa 19) rfl
theorem rd_Ma_20 {A : kLb → Nat} {T : kT} {M : kM} {h : kH} (R : kRl A T M h) : h (A (lMa 20)) = some (kAI 0 60 (gp M (lMa 20))) := rdL R (lMa 20) rfl
theorem rd_Ma_21 {A : kLb → Nat} {T : kT} {M : kM} {h : kH} (R : kRl A T M h) : h (A (lMa 21)) = some (kAI 0 60 (gp M (lMa 21))) := rdL R (lMa 21) rfl
theorem rd_Ma_26 {A : kLb → Nat} {T : kT} {M : kM} {h : kH} (R : kRl A T M h) : h (A (lMa 26)) = some (kAI 0 60 (gp M (lMa 26))) := rdL R (lMa 26) rfl
theorem rd_Ma_27 {A : kLb → Nat} {T : kT} {M : kM} {h : kH} (R : kRl A T M h) : h (A (lMa 27)) = some (kAI 0 108000 (gp M (lMa 27))) := rdL R (lMa 27) rfl
theorem rd_Ma_28 {A : kLb → Nat} {T : kT} {M : kM} {h : kH} (R : kRl A T M h) : h (A (lMa 28)) = some (kAI 0 720 (gp M (lMa 28))) := rdL R (lMa 28) rfl
theorem rd_Ma_29 {A : kLb → Nat} {T : kT} {M : kM} {h : kH} (R : kRl A T M h) : h (A (lMa 29)) = some (kAI 0 720 (gp M (lMa 29))) := rdL R (lMa 29) rfl
theorem rd_Ma_30 {A : kLb → Nat} {T : kT} {M : kM} {h : kH} (R : kRl A T M h) : h (A (lMa 30)) = some (kAI 0 12 (gp M (lMa 30))) := rdL R (lMa 30) rfl
theorem rd_Ma_32 {A : kLb → Nat} {T : kT} {M : kM} {h : kH} (R : kRl A T M h) : h (A (lMa 32)) = some (kAI 0 60 (gp M (lMa 32))) := rdL R (lMa 32) rfl
theorem rd_Ma_33 {A : kLb → Nat} {T : kT} {M : kM} {h : kH} (R : kRl A T M h) : h (A (lMa 33)) = some (kAI 0 60 (gp M (lMa 33))) := rdL R (lMa 33) rfl
theorem rd_Ma_34 {A : kLb → Nat} {T : kT} {M : kM} {h : kH} (R : kRl A T M h) : h (A (lMa 34)) = some (kAI 0 60 (gp M (lMa 34))) := rdL R (lMa 34) rfl
theorem rd_Ma_38 {A : kLb → Nat} {T : kT} {M : kM} {h : kH} (R : kRl A T M h) : h (A (lMa 38)) = some (kAI 0 60 (gp M (lMa 38))) := rdL R (lMa 38) rfl
theorem rd_Ma_39 {A : kLb → Nat} {T : kT} {M : kM} {h : kH} (R : kRl A T M h) : h (A (lMa 39)) = some (kAI 1 60 (gp M (lMa 39))) := rdL R (lMa 39) rfl
theorem mentG_L {A : kLb → Nat} {f : Nat → Int32} {Q : Nat → Option Nat} {O : Nat → Int64} {l : kLb} (gi : kisI l = true) : mentG A f Q O l = kAI 0 (klen l) f := by
  unfold mentG klen
  unfold kisI at gi
  split at gi <;> rename_i z <;> first | exact absurd gi (by decide) | (rw [z, show mbool l.2 = false by simpa using gi]; rfl) | (rw [z]; rfl)
theorem rd_L {A : kLb → Nat} {T : kT} {M : kM} {h : kH} (R : kRl A T M h) {l : kLb} (g : kLv T l = true) (gi : kisI l = true) : h (A l) = some (kAI 0 (klen l) (gp M l)) := by
  rw [R.2 l g]
  unfold ment
  rw [mentG_L gi]
theorem kRl_sa_L {A : kLb → Nat} {T : kT} {M : kM} {h h1 : kH} {l : kLb} {f : Nat → Int32} (R : kRl A T M h) (g : kLv T l = true) (gi : kisI l = true) (e : h1 = kset h (A l) (kAI 0 (klen l) f)) : kRl A T (sa M l f) h1 := kRl_sa R g (by rw [mentG_L gi]; exact e)
theorem kRl_sp_L {A : kLb → Nat} {T : kT} {M : kM} {h h1 : kH} {l : kLb} {k : Nat} {v : Int32} (R : kRl A T M h) (g : kLv T l = true) (gi : kisI l = true) (e : h1 = kset h (A l) (kAI 0 (klen l) (upd (gp M l) k v))) : kRl A T (sp M l k v) h1 := kRl_sa_L R g gi e
/-! outcomes -/
def kPI (A : kLb → Nat) (T : kT) (z : Int32 × kM) : kO → kH → Prop := fun o h1 => o = .inl (some (.int z.1)) ∧ kRl A T z.2 h1
def kPB (A : kLb → Nat) (T : kT) (z : Option Nat × kM) : kO → kH → Prop := fun o h1 => o = .inl (some (rTb A z.1)) ∧ kRl A T z.2 h1
def kPM (A : kLb → Nat) (T : kT) (z : Option Nat × kM) : kO → kH → Prop := fun o h1 => o = .inl (some (rTm A z.1)) ∧ kRl A T z.2 h1
def kPV (A : kLb → Nat) (T : kT) (z : Unit × kM) : kO → kH → Prop := fun o h1 => o = .inl none ∧ kRl A T z.2 h1
/-- thrown or returned -/
def kPTI (A : kLb → Nat) (T : kT) (z : (Nat ⊕ Int32) × kM) : kO → kH → Prop := fun o h1 => o = Sum.elim (fun E => .inr E) (fun v => .inl (some (.int v))) z.1 ∧ kRl A T z.2 h1
def kPTV (A : kLb → Nat) (T : kT) (z : (Nat ⊕ Unit) × kM) : kO → kH → Prop := fun o h1 => o = Sum.elim (fun E => .inr E) (fun _ => .inl none) z.1 ∧ kRl A T z.2 h1
theorem rf_is (x : Option Nat) : (va_rf x).isRef = true := by cases x <;> rfl
theorem rf_cat (x : Option Nat) : (va_rf x).category = 1 := by cases x <;> rfl
theorem nar_q (s : String) (x : Option Nat) : narrow (.object s) (va_rf x) = va_rf x := by cases x <;> rfl
theorem fit_q (s : String) (x : Option Nat) : fits (.object s) (va_rf x) = true := by cases x <;> rfl
theorem kz_nar {v : Int32} (g : (v == 0 || v == 1) = true) : narrow .boolean (.int v) = .int v := by
  simp only [Bool.or_eq_true, beq_iff_eq] at g
  rcases g with rfl | rfl <;> rfl
theorem kz_fit {v : Int32} (g : (v == 0 || v == 1) = true) : fits .boolean (.int v) = true := by
  simp only [Bool.or_eq_true, beq_iff_eq] at g
  rcases g with rfl | rfl <;> rfl
/-! the words of the functions that the methods are -/
def kGd {β : Type} (b : Bool) (r : Option β) : Option β := if b = true then r else none
def kGx {β : Type} (i : Int32) (n : Nat) (r : Option β) : Option β := if i < 0 ∨ n ≤ i.toNatClampNeg then none else r
def kOpt {β : Type} (e : Option Nat) (a : Option β) (f : Nat → Option β) : Option β := match e with
  | none => a
  | some j => f j
def kBd {α β : Type} (x : Option (α × kM)) (f : α → kM → Option β) : Option β := match x with
  | none => none
  | some z => f z.1 z.2
def kLf {α β : Type} (x : Option β) : Option (α ⊕ β) := match x with
  | none => none
  | some z => some (.inr z)
def kSm {β : Type} {γ : Type} (x : Nat ⊕ γ) (f : Nat → Option β) (g : γ → Option β) : Option β := match x with
  | .inl E => f E
  | .inr v => g v
theorem kGd_el {β : Type} {b : Bool} {r : Option β} {z : β} (hF : kGd b r = some z) : b = true ∧ r = some z := by
  unfold kGd at hF
  split at hF
  · exact ⟨by assumption, hF⟩
  · cases hF
theorem kGx_el {β : Type} {i : Int32} {n : Nat} {r : Option β} {z : β} (hF : kGx i n r = some z) : vp_in i n ∧ r = some z := by
  unfold kGx at hF
  split at hF
  · cases hF
  · exact ⟨by assumption, hF⟩
theorem kOpt_el {β : Type} {e : Option Nat} {a : Option β} {f : Nat → Option β} {z : β} (hF : kOpt e a f = some z) : (e = none ∧ a = some z) ∨ ∃ j, e = some j ∧ f j = some z := by
  cases e with
  | none => exact Or.inl ⟨rfl, hF⟩
  | some j => exact Or.inr ⟨j, rfl, hF⟩
theorem kOpt_el1 {β : Type} {e : Option Nat} {f : Nat → Option β} {z : β} (hF : kOpt e none f = some z) : ∃ j, e = some j ∧ f j = some z := by
  cases e with
  | none => cases hF
  | some j => exact ⟨j, rfl, hF⟩
theorem kBd_el {α β : Type} {x : Option (α × kM)} {f : α → kM → Option β} {z : β} (hF : kBd x f = some z) : ∃ r M, x = some (r, M) ∧ f r M = some z := by
  cases x with
  | none => cases hF
  | some y => exact ⟨y.1, y.2, rfl, hF⟩
theorem kLf_el {α β : Type} {x : Option β} {z : α ⊕ β} (hF : kLf x = some z) : ∃ w, x = some w ∧ z = .inr w := by
  cases x with
  | none => cases hF
  | some y => exact ⟨y, rfl, (Option.some.inj hF).symm⟩
theorem kSm_el {β γ : Type} {x : Nat ⊕ γ} {f : Nat → Option β} {g : γ → Option β} {z : β} (hF : kSm x f g = some z) : (∃ E, x = .inl E ∧ f E = some z) ∨ ∃ v, x = .inr v ∧ g v = some z := by
  cases x with
  | inl E => exact Or.inl ⟨E, rfl, hF⟩
  | inr v => exact Or.inr ⟨v, rfl, hF⟩
/-- a loop: its body says 'again from here' or 'this comes of it' -/
def kIt {α β : Type} (f : α → Option (α ⊕ β)) : Nat → α → Option β
  | 0, _ => none
  | n + 1, a => match f a with
    | none => none
    | some (.inl b) => kIt f n b
    | some (.inr z) => some z
noncomputable def kWh {α β : Type} (f : α → Option (α ⊕ β)) (a : α) : Option β := @dite _ (∃ n, ∃ z, kIt f n a = some z) (Classical.propDecidable _) (fun h => kIt f (Classical.choose h) a) (fun _ => none)
theorem kIt_mono {α β : Type} {f : α → Option (α ⊕ β)} : ∀ {n : Nat} {a : α} {z : β}, kIt f n a = some z → ∀ m, kIt f (n + m) a = some z
  | 0, _, _, h, _ => by cases h
  | n + 1, a, z, h, m => by
    rw [show n + 1 + m = (n + m) + 1 by omega]
    rw [kIt] at h ⊢
    cases hf : f a with
    | none => rw [hf] at h; cases h
    | some x =>
      rw [hf] at h
      cases x with
      | inl b => exact kIt_mono (n := n) h m
      | inr w => exact h
theorem kWh_iff {α β : Type} {f : α → Option (α ⊕ β)} {a : α} {z : β} : kWh f a = some z ↔ ∃ n, kIt f n a = some z := by
  unfold kWh
  constructor
  · intro h
    split at h
    · exact ⟨_, h⟩
    · cases h
  · rintro ⟨n, h⟩
    have hx : ∃ n, ∃ z, kIt f n a = some z := ⟨n, z, h⟩
    rw [dif_pos hx]
    obtain ⟨w, hw⟩ := Classical.choose_spec hx
    have e1 := kIt_mono hw n
    have e2 := kIt_mono h (Classical.choose hx)
    rw [Nat.add_comm] at e1
    rw [hw, ← e1, e2]
def kAg {α β : Type} (x : Option (α ⊕ β)) (f : α → Option β) : Option β := match x with
  | none => none
  | some (.inl b) => f b
  | some (.inr z) => some z
theorem kWh_eq {α β : Type} (f : α → Option (α ⊕ β)) (a : α) : kWh f a = kAg (f a) (kWh f) := by
  have key : ∀ z, kWh f a = some z ↔ kAg (f a) (kWh f) = some z := by
    intro z
    rw [kWh_iff]
    constructor
    · rintro ⟨n, h⟩
      cases n with
      | zero => cases h
      | succ n =>
        rw [kIt] at h
        unfold kAg
        cases hf : f a with
        | none => rw [hf] at h; cases h
        | some x =>
          rw [hf] at h
          cases x with
          | inl b => exact kWh_iff.mpr ⟨n, h⟩
          | inr w => exact h
    · intro h
      unfold kAg at h
      cases hf : f a with
      | none => rw [hf] at h; cases h
      | some x =>
        rw [hf] at h
        cases x with
        | inl b =>
          obtain ⟨n, hn⟩ := kWh_iff.mp h
          exact ⟨n + 1, by rw [kIt, hf]; exact hn⟩
        | inr w => exact ⟨1, by rw [kIt, hf]; exact h⟩
  cases h1 : kWh f a with
  | some z => exact ((key z).mp h1).symm
  | none =>
    cases h2 : kAg (f a) (kWh f) with
    | none => rfl
    | some z => rw [(key z).mpr h2] at h1; cases h1
theorem kWh_ind {α β : Type} {f : α → Option (α ⊕ β)} {P : α → Prop} {Q : β → Prop} {a : α} {z : β} (hF : kWh f a = some z) (hQ : Q z) (hs : ∀ a w, f a = some w → Sum.elim P Q w → P a) : P a := by
  obtain ⟨n, hn⟩ := kWh_iff.mp hF
  clear hF
  induction n generalizing a with
  | zero => cases hn
  | succ n ih =>
    rw [kIt] at hn
    cases hf : f a with
    | none => rw [hf] at hn; cases hn
    | some w =>
      rw [hf] at hn
      cases w with
      | inl b => exact hs a _ hf (ih hn)
      | inr y =>
        refine hs a _ hf ?_
        rw [show y = z from Option.some.inj hn]
        exact hQ
theorem kSwOut {n : Nat} {x : Int32} (hn : n ≤ 100) (hx : ∀ k, k < n → ¬ x = nI k) : x.toInt < 0 ∨ (n : Int) - 1 < x.toInt := by
  by_cases h0 : x < 0
  · exact Or.inl (by simpa using Int32.lt_iff_toInt_lt.mp h0)
  · obtain ⟨j, hj, rfl⟩ := nI_of h0
    refine Or.inr ?_
    rw [nI_toInt hj]
    have : ¬ j < n := fun h => hx j h rfl
    omega
theorem kSwOut1 {n : Nat} {x : Int32} (hn : n ≤ 100) (hx : ∀ k, k < n → ¬ x = nI (k + 1)) : x.toInt < 1 ∨ (n : Int) < x.toInt := by
  by_cases h0 : x < 0
  · have : x.toInt < 0 := by simpa using Int32.lt_iff_toInt_lt.mp h0
    exact Or.inl (by omega)
  · obtain ⟨j, hj, rfl⟩ := nI_of h0
    rw [nI_toInt hj]
    cases j with
    | zero => exact Or.inl (by omega)
    | succ j =>
      have : ¬ j < n := fun h => hx j h rfl
      exact Or.inr (by omega)
/-- may so many ints be copied -/
def kCk (sp dp n : Int32) (n0 n1 : Nat) : Bool := decide (¬ sp < 0 ∧ ¬ dp < 0 ∧ ¬ n < 0 ∧ sp.toNatClampNeg + n.toNatClampNeg ≤ n0 ∧ dp.toNatClampNeg + n.toNatClampNeg ≤ n1)
theorem kCk_el {sp dp n : Int32} {n0 n1 : Nat} (h : kCk sp dp n n0 n1 = true) : ¬ sp < 0 ∧ ¬ dp < 0 ∧ ¬ n < 0 ∧ sp.toNatClampNeg + n.toNatClampNeg ≤ n0 ∧ dp.toNatClampNeg + n.toNatClampNeg ≤ n1 := of_decide_eq_true h
theorem kWP.deeper {G : kG} {y : Nat} {C C2 : kCl} {P : kO → kH → Prop} {pc : Nat} {lo : kL} {st : List Value} {h : kH} {mc ms : Nat} (hCC : ∀ y As h mc ms P, C y As h mc ms P → C2 y As h mc ms P) (w : kWP G y C P pc lo st h mc ms) : kWP G y C2 P pc lo st h mc ms := by
  intro X hX
  refine w X ?_
  unfold kClosed at hX ⊢
  refine ⟨hX.1, hX.2.1, hX.2.2.1, hX.2.2.2.1, hX.2.2.2.2.1, hX.2.2.2.2.2.1, hX.2.2.2.2.2.2.1, hX.2.2.2.2.2.2.2.1, hX.2.2.2.2.2.2.2.2.1, hX.2.2.2.2.2.2.2.2.2.1, hX.2.2.2.2.2.2.2.2.2.2.1, hX.2.2.2.2.2.2.2.2.2.2.2.1, hX.2.2.2.2.2.2.2.2.2.2.2.2.1, hX.2.2.2.2.2.2.2.2.2.2.2.2.2.1, hX.2.2.2.2.2.2.2.2.2.2.2.2.2.2.1, hX.2.2.2.2.2.2.2.2.2.2.2.2.2.2.2.1, hX.2.2.2.2.2.2.2.2.2.2.2.2.2.2.2.2.1, hX.2.2.2.2.2.2.2.2.2.2.2.2.2.2.2.2.2.1, hX.2.2.2.2.2.2.2.2.2.2.2.2.2.2.2.2.2.2.1, hX.2.2.2.2.2.2.2.2.2.2.2.2.2.2.2.2.2.2.2.1, hX.2.2.2.2.2.2.2.2.2.2.2.2.2.2.2.2.2.2.2.2.1, hX.2.2.2.2.2.2.2.2.2.2.2.2.2.2.2.2.2.2.2.2.2.1, hX.2.2.2.2.2.2.2.2.2.2.2.2.2.2.2.2.2.2.2.2.2.2.1, hX.2.2.2.2.2.2.2.2.2.2.2.2.2.2.2.2.2.2.2.2.2.2.2.1, hX.2.2.2.2.2.2.2.2.2.2.2.2.2.2.2.2.2.2.2.2.2.2.2.2.1, hX.2.2.2.2.2.2.2.2.2.2.2.2.2.2.2.2.2.2.2.2.2.2.2.2.2.1, hX.2.2.2.2.2.2.2.2.2.2.2.2.2.2.2.2.2.2.2.2.2.2.2.2.2.2.1, hX.2.2.2.2.2.2.2.2.2.2.2.2.2.2.2.2.2.2.2.2.2.2.2.2.2.2.2.1, hX.2.2.2.2.2.2.2.2.2.2.2.2.2.2.2.2.2.2.2.2.2.2.2.2.2.2.2.2.1, hX.2.2.2.2.2.2.2.2.2.2.2.2.2.2.2.2.2.2.2.2.2.2.2.2.2.2.2.2.2.1, hX.2.2.2.2.2.2.2.2.2.2.2.2.2.2.2.2.2.2.2.2.2.2.2.2.2.2.2.2.2.2.1, hX.2.2.2.2.2.2.2.2.2.2.2.2.2.2.2.2.2.2.2.2.2.2.2.2.2.2.2.2.2.2.2.1, hX.2.2.2.2.2.2.2.2.2.2.2.2.2.2.2.2.2.2.2.2.2.2.2.2.2.2.2.2.2.2.2.2.1, hX.2.2.2.2.2.2.2.2.2.2.2.2.2.2.2.2.2.2.2.2.2.2.2.2.2.2.2.2.2.2.2.2.2.1, hX.2.2.2.2.2.2.2.2.2.2.2.2.2.2.2.2.2.2.2.2.2.2.2.2.2.2.2.2.2.2.2.2.2.2.1, hX.2.2.2.2.2.2.2.2.2.2.2.2.2.2.2.2.2.2.2.2.2.2.2.2.2.2.2.2.2.2.2.2.2.2.2.1, hX.2.2.2.2.2.2.2.2.2.2.2.2.2.2.2.2.2.2.2.2.2.2.2.2.2.2.2.2.2.2.2.2.2.2.2.2.1, hX.2.2.2.2.2.2.2.2.2.2.2.2.2.2.2.2.2.2.2.2.2.2.2.2.2.2.2.2.2.2.2.2.2.2.2.2.2.1, hX.2.2.2.2.2.2.2.2.2.2.2.2.2.2.2.2.2.2.2.2.2.2.2.2.2.2.2.2.2.2.2.2.2.2.2.2.2.2.1, hX.2.2.2.2.2.2.2.2.2.2.2.2.2.2.2.2.2.2.2.2.2.2.2.2.2.2.2.2.2.2.2.2.2.2.2.2.2.2.2.1, hX.2.2.2.2.2.2.2.2.2.2.2.2.2.2.2.2.2.2.2.2.2.2.2.2.2.2.2.2.2.2.2.2.2.2.2.2.2.2.2.2.1, hX.2.2.2.2.2.2.2.2.2.2.2.2.2.2.2.2.2.2.2.2.2.2.2.2.2.2.2.2.2.2.2.2.2.2.2.2.2.2.2.2.2.1, hX.2.2.2.2.2.2.2.2.2.2.2.2.2.2.2.2.2.2.2.2.2.2.2.2.2.2.2.2.2.2.2.2.2.2.2.2.2.2.2.2.2.2.1, hX.2.2.2.2.2.2.2.2.2.2.2.2.2.2.2.2.2.2.2.2.2.2.2.2.2.2.2.2.2.2.2.2.2.2.2.2.2.2.2.2.2.2.2.1, hX.2.2.2.2.2.2.2.2.2.2.2.2.2.2.2.2.2.2.2.2.2.2.2.2.2.2.2.2.2.2.2.2.2.2.2.2.2.2.2.2.2.2.2.2.1, hX.2.2.2.2.2.2.2.2.2.2.2.2.2.2.2.2.2.2.2.2.2.2.2.2.2.2.2.2.2.2.2.2.2.2.2.2.2.2.2.2.2.2.2.2.2.1, hX.2.2.2.2.2.2.2.2.2.2.2.2.2.2.2.2.2.2.2.2.2.2.2.2.2.2.2.2.2.2.2.2.2.2.2.2.2.2.2.2.2.2.2.2.2.2.1, hX.2.2.2.2.2.2.2.2.2.2.2.2.2.2.2.2.2.2.2.2.2.2.2.2.2.2.2.2.2.2.2.2.2.2.2.2.2.2.2.2.2.2.2.2.2.2.2.1, hX.2.2.2.2.2.2.2.2.2.2.2.2.2.2.2.2.2.2.2.2.2.2.2.2.2.2.2.2.2.2.2.2.2.2.2.2.2.2.2.2.2.2.2.2.2.2.2.2.1, hX.2.2.2.2.2.2.2.2.2.2.2.2.2.2.2.2.2.2.2.2.2.2.2.2.2.2.2.2.2.2.2.2.2.2.2.2.2.2.2.2.2.2.2.2.2.2.2.2.2.1, hX.2.2.2.2.2.2.2.2.2.2.2.2.2.2.2.2.2.2.2.2.2.2.2.2.2.2.2.2.2.2.2.2.2.2.2.2.2.2.2.2.2.2.2.2.2.2.2.2.2.2.1, hX.2.2.2.2.2.2.2.2.2.2.2.2.2.2.2.2.2.2.2.2.2.2.2.2.2.2.2.2.2.2.2.2.2.2.2.2.2.2.2.2.2.2.2.2.2.2.2.2.2.2.2.1, hX.2.2.2.2.2.2.2.2.2.2.2.2.2.2.2.2.2.2.2.2.2.2.2.2.2.2.2.2.2.2.2.2.2.2.2.2.2.2.2.2.2.2.2.2.2.2.2.2.2.2.2.2.1, hX.2.2.2.2.2.2.2.2.2.2.2.2.2.2.2.2.2.2.2.2.2.2.2.2.2.2.2.2.2.2.2.2.2.2.2.2.2.2.2.2.2.2.2.2.2.2.2.2.2.2.2.2.2.1, hX.2.2.2.2.2.2.2.2.2.2.2.2.2.2.2.2.2.2.2.2.2.2.2.2.2.2.2.2.2.2.2.2.2.2.2.2.2.2.2.2.2.2.2.2.2.2.2.2.2.2.2.2.2.2.1, hX.2.2.2.2.2.2.2.2.2.2.2.2.2.2.2.2.2.2.2.2.2.2.2.2.2.2.2.2.2.2.2.2.2.2.2.2.2.2.2.2.2.2.2.2.2.2.2.2.2.2.2.2.2.2.2.1, hX.2.2.2.2.2.2.2.2.2.2.2.2.2.2.2.2.2.2.2.2.2.2.2.2.2.2.2.2.2.2.2.2.2.2.2.2.2.2.2.2.2.2.2.2.2.2.2.2.2.2.2.2.2.2.2.2.1, hX.2.2.2.2.2.2.2.2.2.2.2.2.2.2.2.2.2.2.2.2.2.2.2.2.2.2.2.2.2.2.2.2.2.2.2.2.2.2.2.2.2.2.2.2.2.2.2.2.2.2.2.2.2.2.2.2.2.1, hX.2.2.2.2.2.2.2.2.2.2.2.2.2.2.2.2.2.2.2.2.2.2.2.2.2.2.2.2.2.2.2.2.2.2.2.2.2.2.2.2.2.2.2.2.2.2.2.2.2.2.2.2.2.2.2.2.2.2.1, hX.2.2.2.2.2.2.2.2.2.2.2.2.2.2.2.2.2.2.2.2.2.2.2.2.2.2.2.2.2.2.2.2.2.2.2.2.2.2.2.2.2.2.2.2.2.2.2.2.2.2.2.2.2.2.2.2.2.2.2.1, hX.2.2.2.2.2.2.2.2.2.2.2.2.2.2.2.2.2.2.2.2.2.2.2.2.2.2.2.2.2.2.2.2.2.2.2.2.2.2.2.2.2.2.2.2.2.2.2.2.2.2.2.2.2.2.2.2.2.2.2.2.1, hX.2.2.2.2.2.2.2.2.2.2.2.2.2.2.2.2.2.2.2.2.2.2.2.2.2.2.2.2.2.2.2.2.2.2.2.2.2.2.2.2.2.2.2.2.2.2.2.2.2.2.2.2.2.2.2.2.2.2.2.2.2.1, hX.2.2.2.2.2.2.2.2.2.2.2.2.2.2.2.2.2.2.2.2.2.2.2.2.2.2.2.2.2.2.2.2.2.2.2.2.2.2.2.2.2.2.2.2.2.2.2.2.2.2.2.2.2.2.2.2.2.2.2.2.2.2.1, hX.2.2.2.2.2.2.2.2.2.2.2.2.2.2.2.2.2.2.2.2.2.2.2.2.2.2.2.2.2.2.2.2.2.2.2.2.2.2.2.2.2.2.2.2.2.2.2.2.2.2.2.2.2.2.2.2.2.2.2.2.2.2.2.1, hX.2.2.2.2.2.2.2.2.2.2.2.2.2.2.2.2.2.2.2.2.2.2.2.2.2.2.2.2.2.2.2.2.2.2.2.2.2.2.2.2.2.2.2.2.2.2.2.2.2.2.2.2.2.2.2.2.2.2.2.2.2.2.2.2.1, hX.2.2.2.2.2.2.2.2.2.2.2.2.2.2.2.2.2.2.2.2.2.2.2.2.2.2.2.2.2.2.2.2.2.2.2.2.2.2.2.2.2.2.2.2.2.2.2.2.2.2.2.2.2.2.2.2.2.2.2.2.2.2.2.2.2.1, hX.2.2.2.2.2.2.2.2.2.2.2.2.2.2.2.2.2.2.2.2.2.2.2.2.2.2.2.2.2.2.2.2.2.2.2.2.2.2.2.2.2.2.2.2.2.2.2.2.2.2.2.2.2.2.2.2.2.2.2.2.2.2.2.2.2.2.1, hX.2.2.2.2.2.2.2.2.2.2.2.2.2.2.2.2.2.2.2.2.2.2.2.2.2.2.2.2.2.2.2.2.2.2.2.2.2.2.2.2.2.2.2.2.2.2.2.2.2.2.2.2.2.2.2.2.2.2.2.2.2.2.2.2.2.2.2.1, hX.2.2.2.2.2.2.2.2.2.2.2.2.2.2.2.2.2.2.2.2.2.2.2.2.2.2.2.2.2.2.2.2.2.2.2.2.2.2.2.2.2.2.2.2.2.2.2.2.2.2.2.2.2.2.2.2.2.2.2.2.2.2.2.2.2.2.2.2.1, hX.2.2.2.2.2.2.2.2.2.2.2.2.2.2.2.2.2.2.2.2.2.2.2.2.2.2.2.2.2.2.2.2.2.2.2.2.2.2.2.2.2.2.2.2.2.2.2.2.2.2.2.2.2.2.2.2.2.2.2.2.2.2.2.2.2.2.2.2.2.1, hX.2.2.2.2.2.2.2.2.2.2.2.2.2.2.2.2.2.2.2.2.2.2.2.2.2.2.2.2.2.2.2.2.2.2.2.2.2.2.2.2.2.2.2.2.2.2.2.2.2.2.2.2.2.2.2.2.2.2.2.2.2.2.2.2.2.2.2.2.2.2.1, hX.2.2.2.2.2.2.2.2.2.2.2.2.2.2.2.2.2.2.2.2.2.2.2.2.2.2.2.2.2.2.2.2.2.2.2.2.2.2.2.2.2.2.2.2.2.2.2.2.2.2.2.2.2.2.2.2.2.2.2.2.2.2.2.2.2.2.2.2.2.2.2.1, ?_, ?_, ?_, ?_, hX.2.2.2.2.2.2.2.2.2.2.2.2.2.2.2.2.2.2.2.2.2.2.2.2.2.2.2.2.2.2.2.2.2.2.2.2.2.2.2.2.2.2.2.2.2.2.2.2.2.2.2.2.2.2.2.2.2.2.2.2.2.2.2.2.2.2.2.2.2.2.2.2.2.2.2.2.1, hX.2.2.2.2.2.2.2.2.2.2.2.2.2.2.2.2.2.2.2.2.2.2.2.2.2.2.2.2.2.2.2.2.2.2.2.2.2.2.2.2.2.2.2.2.2.2.2.2.2.2.2.2.2.2.2.2.2.2.2.2.2.2.2.2.2.2.2.2.2.2.2.2.2.2.2.2.2.1, hX.2.2.2.2.2.2.2.2.2.2.2.2.2.2.2.2.2.2.2.2.2.2.2.2.2.2.2.2.2.2.2.2.2.2.2.2.2.2.2.2.2.2.2.2.2.2.2.2.2.2.2.2.2.2.2.2.2.2.2.2.2.2.2.2.2.2.2.2.2.2.2.2.2.2.2.2.2.2.1, hX.2.2.2.2.2.2.2.2.2.2.2.2.2.2.2.2.2.2.2.2.2.2.2.2.2.2.2.2.2.2.2.2.2.2.2.2.2.2.2.2.2.2.2.2.2.2.2.2.2.2.2.2.2.2.2.2.2.2.2.2.2.2.2.2.2.2.2.2.2.2.2.2.2.2.2.2.2.2.2⟩
  · intro pc lo st h mc ms i y1 mc1 ms1 mc2 ms2 As st0 P1 hd hm hk hn hst hw hC no hm1 hm2 k1
    exact hX.2.2.2.2.2.2.2.2.2.2.2.2.2.2.2.2.2.2.2.2.2.2.2.2.2.2.2.2.2.2.2.2.2.2.2.2.2.2.2.2.2.2.2.2.2.2.2.2.2.2.2.2.2.2.2.2.2.2.2.2.2.2.2.2.2.2.2.2.2.2.2.2.1 pc lo st h mc ms i y1 mc1 ms1 mc2 ms2 As st0 P1 hd hm hk hn hst hw (hCC _ _ _ _ _ _ hC) no hm1 hm2 k1
  · intro pc lo st h mc ms i y1 mc1 ms1 mc2 ms2 As st0 P1 a ci fs hd hm hk hn hst hAs ha hci hw hC no hm1 hm2 k1
    exact hX.2.2.2.2.2.2.2.2.2.2.2.2.2.2.2.2.2.2.2.2.2.2.2.2.2.2.2.2.2.2.2.2.2.2.2.2.2.2.2.2.2.2.2.2.2.2.2.2.2.2.2.2.2.2.2.2.2.2.2.2.2.2.2.2.2.2.2.2.2.2.2.2.2.1 pc lo st h mc ms i y1 mc1 ms1 mc2 ms2 As st0 P1 a ci fs hd hm hk hn hst hAs ha hci hw (hCC _ _ _ _ _ _ hC) no hm1 hm2 k1
  · intro pc lo st h mc ms i y1 mc1 ms1 mc2 ms2 As st0 P1 a hd hm hk hn hst hAs hw hC no hm1 hm2 k1
    exact hX.2.2.2.2.2.2.2.2.2.2.2.2.2.2.2.2.2.2.2.2.2.2.2.2.2.2.2.2.2.2.2.2.2.2.2.2.2.2.2.2.2.2.2.2.2.2.2.2.2.2.2.2.2.2.2.2.2.2.2.2.2.2.2.2.2.2.2.2.2.2.2.2.2.2.1 pc lo st h mc ms i y1 mc1 ms1 mc2 ms2 As st0 P1 a hd hm hk hn hst hAs hw (hCC _ _ _ _ _ _ hC) no hm1 hm2 k1
  · intro pc lo st h mc ms i y1 mc1 ms1 mc2 ms2 As st0 P1 a ci fs hd hm hk hn hst hAs ha hci hpl hlw hdl hw hC hm1 hm2 k1 k2
    exact hX.2.2.2.2.2.2.2.2.2.2.2.2.2.2.2.2.2.2.2.2.2.2.2.2.2.2.2.2.2.2.2.2.2.2.2.2.2.2.2.2.2.2.2.2.2.2.2.2.2.2.2.2.2.2.2.2.2.2.2.2.2.2.2.2.2.2.2.2.2.2.2.2.2.2.2.1 pc lo st h mc ms i y1 mc1 ms1 mc2 ms2 As st0 P1 a ci fs hd hm hk hn hst hAs ha hci hpl hlw hdl hw (hCC _ _ _ _ _ _ hC) hm1 hm2 k1 k2
theorem kRun.deep {G : kG} : ∀ {d y : Nat} {As : List Value} {h : kH} {mc ms : Nat} {P : kO → kH → Prop}, kRun G d y As h mc ms P → kRun G (d + 1) y As h mc ms P
  | 0, _, _, _, _, _, _, w => w.elim
  | d + 1, _, _, _, _, _, _, w => ⟨w.1, kWP.deeper (fun _ _ _ _ _ _ => kRun.deep) w.2⟩
theorem kRun.deepN {G : kG} {d y : Nat} {As : List Value} {h : kH} {mc ms : Nat} {P : kO → kH → Prop} : ∀ (k : Nat), kRun G d y As h mc ms P → kRun G (d + k) y As h mc ms P
  | 0, w => w
  | k + 1, w => kRun.deep (kRun.deepN k w)
section KD
variable {G : kG} {y : Nat} {C : kCl} {P : kO → kH → Prop} {pc : Nat} {lo : kL} {st : List Value} {h : kH} {mc ms : Nat} {i y1 : Nat} {As st0 : List Value} {a ci : Nat} {fs : List Value} {A : kLb → Nat} {T : kT}
theorem kcv_I {r : Int32} {M1 : kM} (hd : kI y pc = some (.invokevirtual i, 3)) (hm : kMth (kCn y) i = some y1) (hk : kKin y1 = 1) (hn : As.length = kArg y1 + 1) (hst : st0 = As.reverse ++ st) (hAs : As[0]? = some (.ref a)) (ha : h a = some (kOb ci fs)) (hci : kRcv y1 = some ci) (hw : (st.map fun v => v.category).sum ≤ 8) (hC : C y1 As h 0 0 (kPI A T (r, M1)))
    (k1 : ∀ h1, kRl A T M1 h1 → kWP G y C P (pc + 3) lo (.int r :: st) h1 mc ms) : kWP G y C P pc lo st0 h mc ms :=
  k_callv (mc1 := 0) (ms1 := 0) (mc2 := mc) (ms2 := ms) hd hm hk hn hst hAs ha hci hw hC (fun E h1 z => by cases z.1) (by omega) (by omega) (fun v h1 hP => by obtain ⟨e1, e2⟩ := hP; cases e1; exact k1 h1 e2)
theorem kcv_B {r : Option Nat} {M1 : kM} (hd : kI y pc = some (.invokevirtual i, 3)) (hm : kMth (kCn y) i = some y1) (hk : kKin y1 = 1) (hn : As.length = kArg y1 + 1) (hst : st0 = As.reverse ++ st) (hAs : As[0]? = some (.ref a)) (ha : h a = some (kOb ci fs)) (hci : kRcv y1 = some ci) (hw : (st.map fun v => v.category).sum ≤ 8) (hC : C y1 As h 0 0 (kPB A T (r, M1)))
    (k1 : ∀ h1, kRl A T M1 h1 → kWP G y C P (pc + 3) lo (rTb A r :: st) h1 mc ms) : kWP G y C P pc lo st0 h mc ms :=
  k_callv (mc1 := 0) (ms1 := 0) (mc2 := mc) (ms2 := ms) hd hm hk hn hst hAs ha hci hw hC (fun E h1 z => by cases z.1) (by omega) (by omega) (fun v h1 hP => by obtain ⟨e1, e2⟩ := hP; cases e1; exact k1 h1 e2)
theorem kcv_M {r : Option Nat} {M1 : kM} (hd : kI y pc = some (.invokevirtual i, 3)) (hm : kMth (kCn y) i = some y1) (hk : kKin y1 = 1) (hn : As.length = kArg y1 + 1) (hst : st0 = As.reverse ++ st) (hAs : As[0]? = some (.ref a)) (ha : h a = some (kOb ci fs)) (hci : kRcv y1 = some ci) (hw : (st.map fun v => v.category).sum ≤ 8) (hC : C y1 As h 0 0 (kPM A T (r, M1)))
    (k1 : ∀ h1, kRl A T M1 h1 → kWP G y C P (pc + 3) lo (rTm A r :: st) h1 mc ms) : kWP G y C P pc lo st0 h mc ms :=
  k_callv (mc1 := 0) (ms1 := 0) (mc2 := mc) (ms2 := ms) hd hm hk hn hst hAs ha hci hw hC (fun E h1 z => by cases z.1) (by omega) (by omega) (fun v h1 hP => by obtain ⟨e1, e2⟩ := hP; cases e1; exact k1 h1 e2)
theorem kcv_V {r : Unit} {M1 : kM} (hd : kI y pc = some (.invokevirtual i, 3)) (hm : kMth (kCn y) i = some y1) (hk : kKin y1 = 1) (hn : As.length = kArg y1 + 1) (hst : st0 = As.reverse ++ st) (hAs : As[0]? = some (.ref a)) (ha : h a = some (kOb ci fs)) (hci : kRcv y1 = some ci) (hw : (st.map fun v => v.category).sum ≤ 8) (hC : C y1 As h 0 0 (kPV A T (r, M1)))
    (k1 : ∀ h1, kRl A T M1 h1 → kWP G y C P (pc + 3) lo (st) h1 mc ms) : kWP G y C P pc lo st0 h mc ms :=
  k_callv (mc1 := 0) (ms1 := 0) (mc2 := mc) (ms2 := ms) hd hm hk hn hst hAs ha hci hw hC (fun E h1 z => by cases z.1) (by omega) (by omega) (fun v h1 hP => by obtain ⟨e1, e2⟩ := hP; cases e1; exact k1 h1 e2)
theorem kcs_I {r : Int32} {M1 : kM} (hd : kI y pc = some (.invokestatic i, 3)) (hm : kMth (kCn y) i = some y1) (hk : kKin y1 = 0) (hn : As.length = kArg y1) (hst : st0 = As.reverse ++ st) (hw : (st.map fun v => v.category).sum ≤ 8) (hC : C y1 As h 0 0 (kPI A T (r, M1)))
    (k1 : ∀ h1, kRl A T M1 h1 → kWP G y C P (pc + 3) lo (.int r :: st) h1 mc ms) : kWP G y C P pc lo st0 h mc ms :=
  k_calls (mc1 := 0) (ms1 := 0) (mc2 := mc) (ms2 := ms) hd hm hk hn hst hw hC (fun E h1 z => by cases z.1) (by omega) (by omega) (fun v h1 hP => by obtain ⟨e1, e2⟩ := hP; cases e1; exact k1 h1 e2)
theorem kcs_B {r : Option Nat} {M1 : kM} (hd : kI y pc = some (.invokestatic i, 3)) (hm : kMth (kCn y) i = some y1) (hk : kKin y1 = 0) (hn : As.length = kArg y1) (hst : st0 = As.reverse ++ st) (hw : (st.map fun v => v.category).sum ≤ 8) (hC : C y1 As h 0 0 (kPB A T (r, M1)))
    (k1 : ∀ h1, kRl A T M1 h1 → kWP G y C P (pc + 3) lo (rTb A r :: st) h1 mc ms) : kWP G y C P pc lo st0 h mc ms :=
  k_calls (mc1 := 0) (ms1 := 0) (mc2 := mc) (ms2 := ms) hd hm hk hn hst hw hC (fun E h1 z => by cases z.1) (by omega) (by omega) (fun v h1 hP => by obtain ⟨e1, e2⟩ := hP; cases e1; exact k1 h1 e2)
theorem kcs_M {r : Option Nat} {M1 : kM} (hd : kI y pc = some (.invokestatic i, 3)) (hm : kMth (kCn y) i = some y1) (hk : kKin y1 = 0) (hn : As.length = kArg y1) (hst : st0 = As.reverse ++ st) (hw : (st.map fun v => v.category).sum ≤ 8) (hC : C y1 As h 0 0 (kPM A T (r, M1)))
    (k1 : ∀ h1, kRl A T M1 h1 → kWP G y C P (pc + 3) lo (rTm A r :: st) h1 mc ms) : kWP G y C P pc lo st0 h mc ms :=
  k_calls (mc1 := 0) (ms1 := 0) (mc2 := mc) (ms2 := ms) hd hm hk hn hst hw hC (fun E h1 z => by cases z.1) (by omega) (by omega) (fun v h1 hP => by obtain ⟨e1, e2⟩ := hP; cases e1; exact k1 h1 e2)
theorem kcs_V {r : Unit} {M1 : kM} (hd : kI y pc = some (.invokestatic i, 3)) (hm : kMth (kCn y) i = some y1) (hk : kKin y1 = 0) (hn : As.length = kArg y1) (hst : st0 = As.reverse ++ st) (hw : (st.map fun v => v.category).sum ≤ 8) (hC : C y1 As h 0 0 (kPV A T (r, M1)))
    (k1 : ∀ h1, kRl A T M1 h1 → kWP G y C P (pc + 3) lo (st) h1 mc ms) : kWP G y C P pc lo st0 h mc ms :=
  k_calls (mc1 := 0) (ms1 := 0) (mc2 := mc) (ms2 := ms) hd hm hk hn hst hw hC (fun E h1 z => by cases z.1) (by omega) (by omega) (fun v h1 hP => by obtain ⟨e1, e2⟩ := hP; cases e1; exact k1 h1 e2)
end KD
