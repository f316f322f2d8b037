theorem kThr_ok {y pc E : Nat} (h : kThr y pc = some E) : ∃ (ik i2 ic : Nat) (tx : String), (y, pc, E, ik, i2, ic, tx) ∈ kThrL ∧ kChT (y, pc, E, ik, i2, ic, tx) = true := by
  have hm := kFind (L := kThrL.map (fun q => (q.1, q.2.1, q.2.2.1))) (v := E) (cn := y) (i := pc) (by
    unfold kThr at h
    rw [List.find?_map]
    cases hf : kThrL.find? (fun q => q.1 == y && q.2.1 == pc) with
    | none => rw [hf] at h; cases h
    | some q =>
      rw [hf] at h
      have hf2 : List.find? ((fun q : Nat × Nat × Nat => q.1 == y && q.2.1 == pc) ∘ fun q : Nat × Nat × Nat × Nat × Nat × Nat × String => (q.1, q.2.1, q.2.2.1)) kThrL = some q := hf
      rw [hf2]
      exact h)
  obtain ⟨⟨a, b, c, ik, i2, ic, tx⟩, hq, he⟩ := List.mem_map.mp hm
  cases he
  exact ⟨ik, i2, ic, tx, hq, List.all_eq_true.mp kChT_ok _ hq⟩
section KT
variable {p : Program} {l : Launch} {e : Env} {R : Room} {s : State} {m : MethodId} {args : Array Value} {below : List Frame} {meth : Method} {c : Code} {D : va_G} {aC : Nat → ClassId} {lw : Nat} {G : kG} {y : Nat} {P : kO → kH → Prop} {MC MS : Nat}
set_option maxHeartbeats 2000000 in
theorem kThrow (hl : l.stackTraces = false) (hx : p.tables.exec = Jvm.exec) (hb : c.code = kBytes y) (hml : c.maxLocals = kMaxL y) (hown : s.vm.findClass (kCls (kCn y)) = some m.cls) (hts : ∀ w ∈ kTbl, w.before args s = true) (hK : kK D aC lw G s) (hlocks : meth.locks = false) (hexc : kHh y = [] → ∀ x ∈ c.exceptionTable.toList, False) (hr : R.cells = MC ∧ R.slots = MS ∧ 6 ≤ R.frames ∧ 200 ≤ R.locals)
    {pc E : Nat} {st : List Value} {h : kH} {lo : kL} {H : Heap} {locs : List Loc} {cells slots : Nat} {LS : Array Slot} (hth : kThr y pc = some E) (hw : (st.map fun v => v.category).sum ≤ 8) (hP : P (.inr E) h) (hR : kR D aC lw h H) (hS : va_S (fun q => lw ≤ q) s.heap H locs) (hL : kLo (kMaxL y) LS lo) (hc : cells + 1 ≤ MC) (hs : slots + 6 ≤ MS) :
    W p l e R s m args below meth c H locs cells slots (vx_MQ below (kQ D aC lw P) (kXC D aC lw P) args s MC MS (fun q => lw ≤ q)) (F0 m pc LS st) := by
  obtain ⟨ik, i2, ic, tx, hq, hch⟩ := kThr_ok hth
  unfold kChT at hch
  dsimp only at hch
  simp only [Bool.and_eq_true] at hch
  obtain ⟨⟨⟨⟨⟨⟨⟨t0, t3⟩, t4⟩, t6⟩, t9⟩, th⟩, tc⟩, te⟩ := hch
  obtain ⟨r1, r2, r3, r4⟩ := hr
  have tc := of_decide_eq_true tc
  have hout : ∀ x ∈ c.exceptionTable.toList, covers x (pc + 9) = false := fun x hx => (hexc (of_decide_eq_true th) x hx).elim
  obtain ⟨hU, hN, hstr, -⟩ := hK.2.2.2.2.2.2.2
  obtain ⟨sa, hsa⟩ := hstr _ hq
  have hnst : ∀ w ∈ kNst, w.before args s = true := fun w hw => va_Nw.use (kNst_onT w hw) (hK.2.1 w hw)
  have hxx : ∀ cls, cls = kExn E → ∀ t : State, s.vm.Alike t.vm → H.size ≤ t.heap.size → (∀ q : Nat, q < H.size → t.heap[q]? = H[q]?) → kXC D aC lw P cls s t := by
    intro cls hcls t ht hz hk
    refine ⟨E, h, hcls, hP, fun a e9 ha => ⟨(hR a e9 ha).1, ((hR a e9 ha).2).kept (hk a ((hR a e9 ha).2.lt))⟩, Nat.le_trans hS.1 hz, fun q g1 g2 => ?_⟩
    rw [hk q (Nat.lt_of_lt_of_le g1 hS.1)]
    exact hS.2.1 q g1 g2
  rw [tc] at hown hsa
  rw [Bool.or_eq_true] at te
  rcases te with te | te
  · obtain ⟨rfl, rfl, rfl⟩ := of_decide_eq_true te
    have hat : ∀ w ∈ kTw0, w.before args s = true := vx_hat (B := kNst) (fun w hw => hts w (List.mem_filter.mpr ⟨kT_w0 w hw, (List.mem_filter.mp hw).2⟩)) (fun w hw => List.mem_append_right _ (List.mem_append_left _ hw)) hnst
    exact vx_throwS hx hb hl (cls := "java/lang/IllegalArgumentException") (names := ["java/lang/RuntimeException", "java/lang/Exception"]) hown (by decide +kernel) (by decide +kernel) (hts _ kT_l0) (hts _ kT_i0) hsa hat (fun w hw => List.all_eq_true.mp kT_g0 w hw) hU hN hS (by rw [hml]; exact hL.1) (kDec (of_decide_eq_true t0)) (kDec (of_decide_eq_true t3)) (kDec (of_decide_eq_true t4)) (kDec (of_decide_eq_true t6)) (kDec (of_decide_eq_true t9)) hout (by show 2 + 3 < _; omega) (by show _ + (13 * (2 + 1) + 43) ≤ _; omega) (by omega) (by omega) hlocks (hxx _ rfl) hS.2.2 hc hs
  · obtain ⟨rfl, rfl, rfl⟩ := of_decide_eq_true te
    have hat : ∀ w ∈ kTw1, w.before args s = true := vx_hat (B := kNst) (fun w hw => hts w (List.mem_filter.mpr ⟨kT_w1 w hw, (List.mem_filter.mp hw).2⟩)) (fun w hw => List.mem_append_right _ (List.mem_append_right _ hw)) hnst
    exact vx_throwS hx hb hl (cls := "java/lang/IllegalStateException") (names := ["java/lang/RuntimeException", "java/lang/Exception"]) hown (by decide +kernel) (by decide +kernel) (hts _ kT_l1) (hts _ kT_i1) hsa hat (fun w hw => List.all_eq_true.mp kT_g1 w hw) hU hN hS (by rw [hml]; exact hL.1) (kDec (of_decide_eq_true t0)) (kDec (of_decide_eq_true t3)) (kDec (of_decide_eq_true t4)) (kDec (of_decide_eq_true t6)) (kDec (of_decide_eq_true t9)) hout (by show 2 + 3 < _; omega) (by show _ + (13 * (2 + 1) + 43) ≤ _; omega) (by omega) (by omega) hlocks (hxx _ rfl) hS.2.2 hc hs
end KT
