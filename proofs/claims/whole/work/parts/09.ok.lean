theorem kFind {α : Type} {L : List (Nat × Nat × α)} {cn i : Nat} {v : α} (h : (L.find? (fun q => q.1 == cn && q.2.1 == i)).map (fun q => q.2.2) = some v) : (cn, i, v) ∈ L := by
  cases hf : L.find? (fun q => q.1 == cn && q.2.1 == i) with
  | none => rw [hf] at h; cases h
  | some q =>
    rw [hf] at h
    have hm := List.mem_of_find?_eq_some hf
    have hp := List.find?_some hf
    simp only [Bool.and_eq_true, beq_iff_eq] at hp
    obtain ⟨a, b, c⟩ := q
    obtain ⟨rfl, rfl⟩ := hp
    cases h
    exact hm
theorem kFld_ok {cn i ci k : Nat} (h : kFld cn i = some (ci, k)) : ∃ r : vw_C, classes[ci]? = some r ∧ k < r.2.2 ∧ (∀ w ∈ u_ws r.1 r.2.1 r.2.2, w ∈ kTbl) ∧ Cond.fieldLink (kCls cn) i (r.2.1 k).1 (r.2.1 k).2.1 (r.2.1 k).2.2.1 ∈ kTbl := by
  have hm := kFind h
  rw [← kFpL_eq, List.mem_map] at hm
  obtain ⟨⟨a, b, c, d, p⟩, hq, he⟩ := hm
  cases he
  have hc := List.all_eq_true.mp kChF_ok _ hq
  unfold kChF at hc
  dsimp only at hc
  split at hc
  · rename_i r hr
    rw [Bool.and_eq_true] at hc
    refine ⟨r, hr, of_decide_eq_true hc.1, ?_, kWat_ok hc.2⟩
    have hl : c < classes.length := (List.getElem?_eq_some_iff.mp hr).1
    have hL := List.all_eq_true.mp kChL_ok c (List.mem_range.mpr hl)
    unfold kChL at hL
    rw [hr] at hL
    simp only [Bool.and_eq_true, List.all_eq_true, List.mem_range] at hL
    intro w hw
    obtain ⟨j, hj, rfl⟩ := List.mem_map.mp hw
    exact kWat_ok (hL.1 j (List.mem_range.mp hj)).1.1.1
  · cases hc
theorem kCls_ok {ci : Nat} {r : vw_C} (hr : classes[ci]? = some r) : (∀ k, k < r.2.2 → parseFieldDescriptor (r.2.1 k).2.2.1 = some (kFty ci k)) ∧ (∀ a, a < r.2.2 → ∀ b, b < r.2.2 → a ≠ b → (r.2.1 a).2.1 ≠ (r.2.1 b).2.1) := by
  have hl : ci < classes.length := (List.getElem?_eq_some_iff.mp hr).1
  have hL := List.all_eq_true.mp kChL_ok ci (List.mem_range.mpr hl)
  unfold kChL at hL
  rw [hr] at hL
  simp only [Bool.and_eq_true, List.all_eq_true, List.mem_range] at hL
  refine ⟨fun k hk => of_decide_eq_true (hL.1 k hk).1.1.2, fun a ha b hb hab => ?_⟩
  have h2 := (hL.1 a ha).2 b hb
  rw [Bool.or_eq_true] at h2
  rcases h2 with h2 | h2
  · exact absurd (of_decide_eq_true h2).symm hab
  · exact of_decide_eq_true h2
theorem kNew_ok {cn i ci : Nat} (h : kNew cn i = some ci) : ∃ r : vw_C, classes[ci]? = some r ∧ (∀ w ∈ u_ws r.1 r.2.1 r.2.2, w ∈ kTbl) ∧ Cond.classLink (kCls cn) i r.1 ∈ kTbl ∧ Cond.instantiable r.1 r.2.2 ∈ kTbl ∧ Cond.initialized r.1 ∈ kTbl ∧ r.2.2 = kSz ci ∧ ∀ j, j < r.2.2 → defaultValue (kFty ci j) = vp_V (kDef ci) j := by
  have hm := kFind h
  rw [← kNpL_eq, List.mem_map] at hm
  obtain ⟨⟨a, b, c, d, p, z⟩, hq, he⟩ := hm
  cases he
  have hc := List.all_eq_true.mp kChN_ok _ hq
  unfold kChN at hc
  dsimp only at hc
  split at hc
  · rename_i r hr
    simp only [Bool.and_eq_true] at hc
    have hl : c < classes.length := (List.getElem?_eq_some_iff.mp hr).1
    have hL := List.all_eq_true.mp kChL_ok c (List.mem_range.mpr hl)
    unfold kChL at hL
    rw [hr] at hL
    simp only [Bool.and_eq_true, List.all_eq_true, List.mem_range] at hL
    refine ⟨r, hr, ?_, kWat_ok hc.1.1, kWat_ok hc.1.2, kWat_ok hc.2, of_decide_eq_true hL.2, fun j hj => of_decide_eq_true (hL.1 j hj).1.2⟩
    intro w hw
    obtain ⟨j, hj, rfl⟩ := List.mem_map.mp hw
    exact kWat_ok (hL.1 j (List.mem_range.mp hj)).1.1.1
  · cases hc
theorem kANew_ok {cn i k : Nat} (h : kANew cn i = some k) : ∃ C : String, kArt[k]? = some (.object C) ∧ Cond.classLink (kCls cn) i C ∈ kTbl ∧ C ∈ kAOs := by
  have hm := kFind h
  rw [← kApL_eq, List.mem_map] at hm
  obtain ⟨⟨a, b, c, p⟩, hq, he⟩ := hm
  cases he
  have hc := List.all_eq_true.mp kChA_ok _ hq
  unfold kChA at hc
  dsimp only at hc
  split at hc
  · rename_i C hC
    rw [Bool.and_eq_true] at hc
    exact ⟨C, hC, kWat_ok hc.1, of_decide_eq_true hc.2⟩
  · cases hc
theorem kCst_ok {cn i : Nat} {v : Int32} (h : kCst cn i = some v) : Cond.constant (kCls cn) i v ∈ kTbl := by
  have hm := kFind h
  rw [← kCpL_eq, List.mem_map] at hm
  obtain ⟨⟨a, b, c, p⟩, hq, he⟩ := hm
  cases he
  exact kWat_ok (List.all_eq_true.mp kChC_ok _ hq)
theorem kNat_lk {cn i v : Nat} (h : kNat cn i = some v) : Cond.methodLink (kCls cn) i (kNatN v) ∈ kTbl := by
  have hm := kFind h
  rw [← kXpL_eq, List.mem_map] at hm
  obtain ⟨⟨a, b, c, p⟩, hq, he⟩ := hm
  cases he
  exact kWat_ok (List.all_eq_true.mp kChX_ok _ hq)
theorem kNat_ok0 {cn i : Nat} (h : kNat cn i = some 0) : Cond.methodLink (kCls cn) i arraycopyName ∈ kTbl ∧ Cond.native arraycopyName ∈ kTbl ∧ Cond.static arraycopyName ∈ kTbl ∧ Cond.initialized "java/lang/System" ∈ kTbl := ⟨kNat_lk h, kX_nat, kX_st0, kX_in0⟩
theorem kNat_ok1 {cn i : Nat} (h : kNat cn i = some 1) : Cond.methodLink (kCls cn) i Lib.Math.min.name ∈ kTbl ∧ Cond.static Lib.Math.min.name ∈ kTbl ∧ Cond.initialized "java/lang/Math" ∈ kTbl ∧ Cond.code Lib.Math.min.name Lib.Math.min.code 2 (some .int) ∈ kTbl := ⟨kNat_lk h, kX_st1, kX_in1, kX_cd1⟩
theorem kNat_ok2 {cn i : Nat} (h : kNat cn i = some 2) : Cond.methodLink (kCls cn) i Lib.Math.max.name ∈ kTbl ∧ Cond.static Lib.Math.max.name ∈ kTbl ∧ Cond.initialized "java/lang/Math" ∈ kTbl ∧ Cond.code Lib.Math.max.name Lib.Math.max.code 2 (some .int) ∈ kTbl := ⟨kNat_lk h, kX_st2, kX_in1, kX_cd2⟩
theorem kObj_ok {cn i : Nat} (h : kObj cn i = true) : Cond.methodLink (kCls cn) i Lib.objectInit ∈ kTbl := by
  unfold kObj at h
  obtain ⟨v, hv⟩ := Option.isSome_iff_exists.mp h
  have hm := kFind hv
  rw [← kOpL_eq, List.mem_map] at hm
  obtain ⟨⟨a, b, c, p⟩, hq, he⟩ := hm
  cases he
  exact kWat_ok (List.all_eq_true.mp kChO_ok _ hq)
theorem kMth_ok {cn i y1 : Nat} (h : kMth cn i = some y1) : ((Cond.methodLinkNest (kCls cn) i (kNm y1) "RelationDesk" ∈ kNst ∧ kHh y1 = []) ∨ Cond.methodLink (kCls cn) i (kNm y1) ∈ kTbl) ∧ kChM y1 = true := by
  have hm := kFind h
  rw [← kMpL_eq, List.mem_map] at hm
  obtain ⟨⟨a, b, c, p⟩, hq, he⟩ := hm
  cases he
  have hc := List.all_eq_true.mp kChK_ok _ hq
  unfold kChK at hc
  dsimp only at hc
  simp only [Bool.and_eq_true] at hc
  obtain ⟨h1, h2⟩ := hc
  refine ⟨?_, kChM_ok _ (of_decide_eq_true h2)⟩
  by_cases hp : p = 99999
  · rw [if_pos hp] at h1
    rw [Bool.and_eq_true] at h1
    exact Or.inl ⟨List.mem_append_left _ (of_decide_eq_true h1.1), of_decide_eq_true h1.2⟩
  · rw [if_neg hp] at h1
    exact Or.inr (kWat_ok h1)
theorem kPut_ok {y ci k : Nat} {r : vw_C} (h : kPut y ci k = true) (hr : classes[ci]? = some r) (hf : (r.2.1 k).2.2.2 = true) : kIni y = true ∧ (r.2.1 k).1 = kCls (kCn y) := by
  unfold kPut at h
  rw [hr] at h
  dsimp only at h
  rw [Bool.and_eq_true, Bool.or_eq_true, Bool.and_eq_true] at h
  rcases h.2 with h2 | h2
  · rw [hf] at h2
    cases h2
  · exact ⟨h2.1, eq_of_beq h2.2⟩
theorem kGood (y : Nat) (hc : kCdW y ∈ kTbl) : GoodIn kTbl (kWs y) := by
  intro w hw
  unfold kWs at hw
  rcases List.mem_cons.mp hw with rfl | hw
  · exact ⟨hc, good_of_word (List.mem_filter.mp hc).2⟩
  · exact ⟨hw, good_of_word (List.mem_filter.mp hw).2⟩
theorem kM_ok {y : Nat} (h : kChM y = true) : kCdW y ∈ kTbl ∧ Cond.initialized (kNm y).cls ∈ kTbl ∧ ((kNm y).cls ≠ "java/lang/invoke/MethodHandle" ∧ (kNm y).cls ≠ "java/lang/invoke/VarHandle" ∧ (parseMethodDescriptor (kNm y).desc).map (fun d => d.parameters.length) = some (kArg y)) ∧ (plainName (kNm y).cls || (plainFor (kNm y) && decide (kHh y = []))) = true ∧ kMaxL y ≤ 40 ∧ kCls (kCn y) = (kNm y).cls ∧
    (kKin y = 0 → Cond.static (kNm y) ∈ kTbl) ∧ (kKin y = 1 → Cond.instanceMethod (kNm y) ∈ kTbl ∧ Cond.selects (kNm y).cls (kNm y) (kNm y) ∈ kTbl ∧ ∃ (ci : Nat) (r : vw_C), kRcv y = some ci ∧ classes[ci]? = some r ∧ r.1 = (kNm y).cls) ∧ (kKin y = 2 → Cond.instanceMethod (kNm y) ∈ kTbl ∧ (kNm y).name = "<init>") ∧ (kKin y = 0 ∨ kHh y = []) ∧ (kKin y = 2 → kRet y = none) := by
  unfold kChM at h
  simp only [Bool.and_eq_true] at h
  obtain ⟨⟨⟨⟨⟨⟨⟨⟨⟨⟨h1, h2⟩, h3⟩, h4⟩, h5⟩, h6⟩, h7⟩, h8⟩, h9⟩, h10⟩, h11⟩ := h
  refine ⟨kWat_ok h1, kWat_ok h2, ⟨of_decide_eq_true h4, of_decide_eq_true h5, of_decide_eq_true h6⟩, h7, of_decide_eq_true h8, of_decide_eq_true h9, fun hk => ?_, fun hk => ?_, fun hk => ?_, of_decide_eq_true h10, of_decide_eq_true h11⟩
  · rw [hk] at h3
    simp only [Bool.and_eq_true] at h3
    exact kWat_ok h3.1
  · rw [hk] at h3
    simp only [Bool.and_eq_true] at h3
    obtain ⟨⟨g1, g2⟩, g3⟩ := h3
    refine ⟨kWat_ok g1, kWat_ok g2, ?_⟩
    cases hr : kRcv y with
    | none => rw [hr] at g3; cases g3
    | some ci =>
      rw [hr] at g3
      have g4 := of_decide_eq_true g3
      cases hc : classes[ci]? with
      | none => rw [hc] at g4; cases g4
      | some r =>
        rw [hc] at g4
        exact ⟨ci, r, rfl, hc, Option.some.inj g4⟩
  · rw [hk] at h3
    simp only [Bool.and_eq_true] at h3
    exact ⟨kWat_ok h3.1, of_decide_eq_true h3.2⟩
theorem kWs_code {y : Nat} (hh : kHh y = []) : kWs y = Cond.code (kNm y) (kBytes y) (kMaxL y) (kRet y) :: kTbl := by
  unfold kWs kCdW
  rw [if_pos hh]
theorem kWs_with {y : Nat} (hh : ¬ kHh y = []) : kWs y = Cond.codeWith (kNm y) (kBytes y) (kMaxL y) (kRet y) (kHh y) :: kTbl := by
  unfold kWs kCdW
  rw [if_neg hh]
theorem kToMet {l : Launch} {y : MethodName} {ws : List Cond} {rm : Room} {Pc : Array Value → State → Prop} {Qc : Array Value → State → Outcome → State → Prop} {XC : String → State → State → Prop} {mc ms : Nat} {free : Addr → Prop} (h : vx_Met l y ws rm Pc Qc XC mc ms free) (hno : ∀ E st t, ¬ XC E st t) : Met l y ws rm Pc Qc mc ms free := by
  intro p e ha hc hk s m args below hf hs hP hKK
  obtain ⟨n, o, h1, h2, h3, h4⟩ := h p e ha hc hk s m args below hf hs hP hKK
  refine ⟨n, o, h1, h2, h3, ?_⟩
  rcases h4 with h4 | ⟨q, -, E, ce, L, hx, -⟩
  · exact h4
  · exact absurd hx (hno _ _ _)
theorem kNst_onT : ∀ w ∈ kNst, w.onTables = true := by decide +kernel
def kNk (w : Cond) : Bool := match w with
  | .methodLinkNest _ _ _ _ => true
  | .declares _ => true
  | .castable _ _ => true
  | _ => false
theorem kNst_kind : ∀ w ∈ kNst, kNk w = true := by decide +kernel
theorem kCast_warm {C T : String} {s U : State} (hW : s.WarmedH U.vm) (h : va_Nw (.castable C T) s) : va_Nw (.castable C T) U := by
  unfold va_Nw at h ⊢
  simp only [Cond.before, Cond.holds, Cond.value, hW.alike.findClass, hW.alike.assignable] at h ⊢
  exact h
theorem kNst_warm {w : Cond} {s U : State} (hW : s.WarmedH U.vm) (hw : w ∈ kNst) (h : va_Nw w s) : va_Nw w U := by
  have hk := kNst_kind w hw
  unfold kNk at hk
  split at hk
  · exact va_Nw.warmM hW h
  · exact va_Nw.warmD hW h
  · exact kCast_warm hW h
  · cases hk
theorem kNst_same {w : Cond} {u U : State} (hw : w ∈ kNst) (hv : u.vm = U.vm) (h : va_Nw w u) : va_Nw w U := va_Nw.same (kNst_onT w hw) hv h
def kThrK (lw : Nat) (U : State) : Prop := vx_Zq Bundle.tN "UNASSIGNED_STACK" Bundle.steD (fun q => lw ≤ q) U U.heap ∧ vx_Zq Bundle.tN "SUPPRESSED_SENTINEL" Bundle.listD (fun q => lw ≤ q) U U.heap ∧ (∀ q ∈ kThrL, ∃ sa : Nat, vk_R (kCls (kCn q.1)) q.2.2.2.2.1 q.2.2.2.2.2.2 sa U) ∧ va_Nc "java/lang/IllegalStateException" "java/lang/IllegalArgumentException" U
theorem kThrK.moved {lw : Nat} {s U : State} (hW : s.WarmedH U.vm) (hH : ∀ a : Nat, a < s.heap.size → ¬ lw ≤ a → U.heap[a]? = s.heap[a]?) (h : kThrK lw s) : kThrK lw U := by
  obtain ⟨h1, h2, h3, h4⟩ := h
  refine ⟨(vx_Zq.moved hW.alike h1).kept hH, (vx_Zq.moved hW.alike h2).kept hH, fun q hq => ?_, va_Nc.moved hW.alike h4⟩
  obtain ⟨sa, hs⟩ := h3 q hq
  exact ⟨sa, vk_R.warm hW hs⟩
theorem kThrK.same {lw : Nat} {s U : State} (hv : s.vm = U.vm) (hH : U.heap = s.heap) (h : kThrK lw s) : kThrK lw U := by
  refine kThrK.moved (by rw [← hv]; exact State.WarmedH.refl s) (fun a _ _ => by rw [hH]) h
theorem kHan_ok {y pc E hp : Nat} (h : kHan y pc E = some hp) : ∃ k : Nat, kChH (y, pc, E, hp, k) = true := by
  unfold kHan at h
  cases hf : kHanL.find? (fun q => q.1 == y && q.2.1 == pc && q.2.2.1 == E) with
  | none => rw [hf] at h; cases h
  | some q =>
    rw [hf] at h
    have hm := List.mem_of_find?_eq_some hf
    have hp9 := List.find?_some hf
    simp only [Bool.and_eq_true, beq_iff_eq] at hp9
    obtain ⟨a, b, c, d, k⟩ := q
    obtain ⟨⟨rfl, rfl⟩, rfl⟩ := hp9
    cases h
    exact ⟨k, List.all_eq_true.mp kChH_ok _ hm⟩
def kNkL (w : Cond) : Bool := match w with
  | .methodLinkNest a _ _ _ => a != "RelationDeskLaw"
  | _ => true
theorem kNst_nl : ∀ w ∈ kNst, kNkL w = true := by decide +kernel
theorem kNst_law (i : Nat) (x : MethodName) : Cond.methodLinkNest "RelationDeskLaw" i x "RelationDesk" ∉ kNst := fun h => by
  have := kNst_nl _ h
  simp [kNkL] at this
