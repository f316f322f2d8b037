/-! THE CLAIM OUT OF ONE WALK OF THE LAW'S BODY. Your part is whole_start (and what it stands on); all else here is the same for every law, but numbers. -/
def R_law : String := "RelationDeskLaw"
def lw_P (b : Addr) (xs : List Int32) (args : Array Value) (s : State) : Prop := args = #[.ref b] ∧ s.IntsAt b xs ∧ xs.length ≤ 2560 ∧ (Jvm.Cond.and given_1 narrow_1).before args s = true
def lw_Q (_ : Array Value) (s : State) (o : Outcome) (t : State) : Prop := o = .returned (some (.int 1)) ∧ Framed s o t [] 601024 7293034
def lw_Z (below : List Frame) (a : Array Value) (s : State) : State → Prop := fun t => ∃ o, t.status = .running ∧ Ended t below o ∧ lw_Q a s o t
/-- the law's own end, with 1 on the stack, nothing written that was there before, its room as the claim has it -/
theorem lw_ret {p : Program} {l : Launch} {e : Env} {s : State} {m : MethodId} {below : List Frame} {meth : Method} {c : Code} {b : Nat} (hx : p.tables.exec = Jvm.exec) (hb : c.code = code) (hr : meth.sig.returnType = ret) (hlocks : meth.locks = false) {pc : Nat} {H : Heap} {ls : Array Slot} (hdg : decode code pc = .ok (.ireturn, 1)) : W p l e room_1 s m #[Value.ref b] below meth c H [] 601024 7293034 (lw_Z below #[Value.ref b] s) (F0 m pc ls [.int 1]) := by
  intro T hT X
  obtain ⟨fs, hret, hrun, hended, hW, hframe⟩ := X.leave (v := some (.int 1)) (hlocks := hlocks) (fun h => by rw [hr] at h; cases h)
  have hmeth' : T.vm.method? m = some meth := X.method'
  refine ⟨T.setFrames fs, ?_, .returned (some (.int 1)), hrun, hended, rfl, ⟨_, rfl⟩, hW, hframe⟩
  jvm_step X.here [X.here.top, hx, hb, hdg, hmeth', hr, ret, narrow_b1]
  (try refine ⟨rfl, ?_⟩); (try refine ⟨rfl, ?_⟩)
  first | (intro acts; rw [hret _ acts rfl rfl rfl]) | rw [hret _ _ rfl rfl rfl]
  exact Steps.refl _
/-- what holds at the law's entry: the machine, the code, the tables' words (any of lw_tbl by 'hts w (by decide +kernel)'), the script of L ints xs at the cell b, what the Statement gives of the start (any of its parts by flat_of_before) -/
def lw_At (p : Program) (s : State) (m : MethodId) (meth : Method) (c : Code) (b L : Nat) (xs : Nat → Int32) : Prop :=
  p.tables.exec = Jvm.exec ∧ c.code = code ∧ meth.sig.returnType = ret ∧ c.maxLocals = 7 ∧ s.vm.findClass R_law = some m.cls ∧ (∀ w ∈ lw_tbl, w.before #[Value.ref b] s = true) ∧ va_X b L xs s s.heap ∧ b < s.heap.size ∧ meth.locks = false ∧ (Jvm.Cond.and given_1 narrow_1).before #[Value.ref b] s = true
theorem kS_nst : ∀ w ∈ kNst, w ∈ lw_tbl := by decide +kernel
theorem kS_ao : ∀ C ∈ kAOs, Cond.arrayOver (.object C) ∈ lw_tbl := by decide +kernel
theorem kS_ls0 : Cond.laysStatic Bundle.tN "UNASSIGNED_STACK" Bundle.steD ∈ lw_tbl := by decide +kernel
theorem kS_ls1 : Cond.laysStatic Bundle.tN "SUPPRESSED_SENTINEL" Bundle.listD ∈ lw_tbl := by decide +kernel
theorem kS_in : Cond.initialized Bundle.tN ∈ lw_tbl := by decide +kernel
theorem kS_ir0 : Cond.isRef (.static Bundle.tN "UNASSIGNED_STACK" Bundle.steD) ∈ flatC (Jvm.Cond.and given_1 narrow_1) := by decide +kernel
theorem kS_ir1 : Cond.isRef (.static Bundle.tN "SUPPRESSED_SENTINEL" Bundle.listD) ∈ flatC (Jvm.Cond.and given_1 narrow_1) := by decide +kernel
theorem kS_nc : Cond.not (.castable "java/lang/IllegalStateException" "java/lang/IllegalArgumentException") ∈ flatC (Jvm.Cond.and given_1 narrow_1) := by decide +kernel
theorem kS_st : ∀ q ∈ kThrL, Cond.stringRef (kCls (kCn q.1)) q.2.2.2.2.1 q.2.2.2.2.2.2 ∈ lw_tbl ∧ Cond.exactly (.string (kCls (kCn q.1)) q.2.2.2.2.1) "java/lang/String" ∈ flatC (Jvm.Cond.and given_1 narrow_1) := by decide +kernel
theorem kS_inst : ∀ ci, ci < classes.length → ∀ r, classes[ci]? = some r → Cond.instantiable r.1 r.2.2 ∈ kTbl := by
  intro ci hci r hr
  have h8 : ∃ cn i, kNew cn i = some ci := by
    have : ∀ ci, ci < classes.length → ∃ q ∈ kNewL, q.2.2 = ci ∧ kNew q.1 q.2.1 = some q.2.2 := by decide +kernel
    obtain ⟨q, -, h1, h2⟩ := this ci hci
    exact ⟨q.1, q.2.1, h1 ▸ h2⟩
  obtain ⟨cn, i, h⟩ := h8
  obtain ⟨r', hr', -, -, w2, -⟩ := kNew_ok h
  cases hr.symm.trans hr'
  exact w2
theorem kStart {s : State} {b L : Nat} {xs : Nat → Int32} (hts : ∀ w ∈ lw_tbl, w.before #[Value.ref b] s = true) (hX : va_X b L xs s s.heap) (hbl : b < s.heap.size) (hgv : (Jvm.Cond.and given_1 narrow_1).before #[Value.ref b] s = true) : ∃ (D : va_G) (aC : Nat → ClassId), kK D aC s.heap.size (b, L, xs) s := by
  have htk : ∀ w ∈ kTbl, w.before #[Value.ref b] s = true := fun w hw => hts w (List.mem_filter.mp hw).1
  have hfl := flat_of_before _ hgv
  have h1 : ∀ ci : Nat, ∃ q : ClassId × (Nat → Nat), ∀ r : vw_C, classes[ci]? = some r → u_Kn s r.1 r.2.1 r.2.2 q.1 q.2 := by
    intro ci
    cases hr : classes[ci]? with
    | none => exact ⟨(0, fun _ => 0), fun r h => by cases h⟩
    | some r =>
      have hci : ci < classes.length := (List.getElem?_eq_some_iff.mp hr).1
      have hL := List.all_eq_true.mp kChL_ok ci (List.mem_range.mpr hci)
      unfold kChL at hL
      rw [hr] at hL
      simp only [Bool.and_eq_true, List.all_eq_true, List.mem_range] at hL
      have hin : ∀ w ∈ u_ws r.1 r.2.1 r.2.2, w ∈ kTbl := by
        intro w hw
        obtain ⟨j, hj, rfl⟩ := List.mem_map.mp hw
        exact kWat_ok (hL.1 j (List.mem_range.mp hj)).1.1.1
      obtain ⟨cC, iS, hk⟩ := u_known htk hin (htk _ (kS_inst ci hci r hr))
      exact ⟨(cC, iS), fun r' h => by cases h; exact hk⟩
  have h2 : ∀ k : Nat, ∃ cA : ClassId, ∀ ty : FieldType, kArt[k]? = some ty → ArrOfT s cA ty ∧ va_RA s cA ty := by
    have ho : ∀ C : String, C ∈ kAOs → ∃ cA : ClassId, ArrOfT s cA (.object C) ∧ va_RA s cA (.object C) := by
      intro C hC
      obtain ⟨comp, c9, k9, g1, g2, g3, g4, g5⟩ := Cond.arrayOver_spec (hts _ (kS_ao C hC))
      exact ⟨c9, fun n z => ⟨(fun k h => by cases h), k9, g3, comp, g4⟩, k9, comp, g3, g4, g1, g5⟩
    have hp : ∀ ty : FieldType, Cond.arrayClass ty ∈ kTbl → (∀ C, ty ≠ .object C) → ∃ cA : ClassId, ArrOfT s cA ty ∧ va_RA s cA ty := by
      intro ty hw hne
      obtain ⟨c9, k9, comp, g1, g2, g3⟩ := Cond.arrayClass_spec (htk _ hw)
      refine ⟨c9, fun n z => ⟨(fun k h => by cases h), k9, g2, comp, g3⟩, ?_⟩
      cases ty with
      | object C => exact absurd rfl (hne C)
      | _ => exact g1
    intro k
    match k with
    | 0 => obtain ⟨cA, h⟩ := hp .int kArr_i (fun C h => by cases h); exact ⟨cA, fun ty hty => by cases hty; exact h⟩
    | 1 => obtain ⟨cA, h⟩ := hp .boolean kArr_z (fun C h => by cases h); exact ⟨cA, fun ty hty => by cases hty; exact h⟩
    | 2 => obtain ⟨cA, h⟩ := hp .long kArr_j (fun C h => by cases h); exact ⟨cA, fun ty hty => by cases hty; exact h⟩
    | 3 => obtain ⟨cA, h⟩ := ho _ (show "RelationDesk$Table" ∈ kAOs by decide +kernel); exact ⟨cA, fun ty hty => by cases hty; exact h⟩
    | 4 => obtain ⟨cA, h⟩ := ho _ (show "RelationDesk$Term" ∈ kAOs by decide +kernel); exact ⟨cA, fun ty hty => by cases hty; exact h⟩
    | k + 5 => exact ⟨0, fun ty hty => by simp [kArt] at hty⟩
  obtain ⟨q, hq⟩ := Classical.axiomOfChoice h1
  obtain ⟨aC, haC⟩ := Classical.axiomOfChoice h2
  refine ⟨(fun ci => (q ci).1, fun ci => (q ci).2), aC, ⟨fun ci r hr => hq ci r hr, fun k z hz => ?_⟩, fun w hw => va_Nw.of (kNst_onT w hw) (hts _ (kS_nst w hw)), hX, hbl, hbl, Nat.le_refl _, fun C hC => va_AO.of (hts _ (kS_ao C hC)), ?_⟩
  · have hlt : k < kArt.length := by
      have := (List.getElem?_eq_some_iff.mp hz).1
      simpa [kTys] using this
    obtain ⟨ty, hty⟩ : ∃ ty, kArt[k]? = some ty := ⟨_, List.getElem?_eq_getElem hlt⟩
    rw [kTys_at hty] at hz
    cases hz
    exact haC k ty hty
  · have hlow : ∀ a : Nat, a < s.heap.size → ¬ s.heap.size ≤ a := fun a h => Nat.not_le.mpr h
    refine ⟨vx_Zqof (hts _ kS_ls0) (hts _ kS_in) (hfl _ kS_ir0) hlow, vx_Zqof (hts _ kS_ls1) (hts _ kS_in) (hfl _ kS_ir1) hlow, fun q hq => ?_, va_Nc.of (hfl _ kS_nc)⟩
    obtain ⟨g1, g2⟩ := kS_st q hq
    obtain ⟨a, c, cell, k, e1, -⟩ := Cond.exactly_spec (hfl _ g2)
    exact ⟨a, vk_R.of (hts _ g1) e1⟩
set_option maxHeartbeats 2000000 in
/-- the claim's walk out of a run of the law on the small machine -/
theorem whole_open {p : Program} {e : Env} {s : State} {m : MethodId} {below : List Frame} {meth : Method} {c : Code} {l : Launch} (hl : l.stackTraces = false) {b L : Nat} {xs : Nat → Int32} (C0 : lw_At p s m meth c b L xs)
    (hrun : kWP (b, L, xs) 156 (kRun (b, L, xs) 60) (fun o _ => o = .inl (some (.int 1))) 0 (kEntry 156 [.ref b]) [] (fun _ => none) 601024 7293034) :
    W p l e room_1 s m #[Value.ref b] below meth c s.heap [] 0 0 (lw_Z below #[Value.ref b] s) (entryFrame m ([Value.ref b] : List Value).toArray 7) := by
  obtain ⟨hx, hb, hr, hml, hown, hts, hX, hbl, hlocks, hgv⟩ := C0
  obtain ⟨D, aC, hK⟩ := kStart hts hX hbl hgv
  have hb' : c.code = kBytes 156 := hb
  have hml' : c.maxLocals = kMaxL 156 := hml
  obtain ⟨hle, hL⟩ := kLo_entry (y := 156) (As := [Value.ref b]) rfl (show 1 ≤ kMaxL 156 by decide +kernel)
  have hends : kEnds D aC s.heap.size p l e room_1 s m #[Value.ref b] below meth c (lw_Z below #[Value.ref b] s) 156 (fun o _ => o = .inl (some (.int 1))) 601024 7293034 := by
    refine ⟨?_, ?_, ?_, ?_⟩
    · intro pc x ty h H locs cells slots LS hd hr9 hn hP hR hS hc hs
      cases hP
      exact va_forget (fun q hq => hS.2.2 q hq) (W.widen hc hs (lw_ret hx hb hr hlocks hd))
    · intro pc v h H locs cells slots LS hd hr9
      exact absurd hr9 (by decide +kernel)
    · intro pc h H locs cells slots LS hd hr9
      exact absurd hr9 (by decide +kernel)
    · intro pc E st h lo H locs cells slots LS hth
      obtain ⟨ik, i2, ic, tx, hq, hch⟩ := kThr_ok hth
      have : ∀ q ∈ kThrL, q.1 ≠ 156 := by decide +kernel
      exact absurd rfl (this _ hq)
  have Z : kZ D aC s.heap.size (b, L, xs) p l e room_1 s m #[Value.ref b] below meth c (lw_Z below #[Value.ref b] s) 156 (kRun (b, L, xs) 60) (fun o _ => o = .inl (some (.int 1))) 60 601024 7293034 :=
    ⟨hx, hb', hml', hown, fun w hw => hts w (List.mem_filter.mp hw).1, hK, fun h => absurd h (by decide +kernel), ⟨rfl, rfl, by decide, by decide⟩, Or.inl (by decide +kernel), kSound hl 60, hends⟩
  have K := hrun _ (ks_all Z) s.heap [] 0 0 _ (fun a e9 h9 => by cases h9) va_S.rf hL (Nat.le_of_eq (Nat.zero_add _)) (Nat.le_of_eq (Nat.zero_add _))
  rw [lg_entry_eq]
  exact K
