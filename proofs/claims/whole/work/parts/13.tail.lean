theorem kLo_entry {y : Nat} {As : List Value} (h1 : As.all (fun v => v.category == 1) = true) (h2 : As.length ≤ kMaxL y) : (lg_sl As).length ≤ kMaxL y ∧ kLo (kMaxL y) ((lg_sl As ++ List.replicate (kMaxL y - (lg_sl As).length) Slot.unset).toArray) (kEntry y As) := by
  have hsl : ∀ (L : List Value), L.all (fun v => v.category == 1) = true → (lg_sl L).length = L.length := by
    intro L
    induction L with
    | nil => intro _; rfl
    | cons v L ih =>
      intro hL
      rw [List.all_cons, Bool.and_eq_true] at hL
      have hv : v.category = 1 := by simpa using hL.1
      have e : lg_sl (v :: L) = .val v :: lg_sl L := by simp [lg_sl, hv]
      rw [e, List.length_cons, List.length_cons, ih hL.2]
  have hargs : ∀ (L : List Value) (i : Nat), L.all (fun v => v.category == 1) = true → ∀ (j : Nat) (v : Value), L[j]? = some v → (i + j, v) ∈ lv_args i L := by
    intro L
    induction L with
    | nil => intro i _ j v hj; simp at hj
    | cons w L ih =>
      intro i hL j v hj
      rw [List.all_cons, Bool.and_eq_true] at hL
      have hw : ¬ w.category = 2 := by have : w.category = 1 := by simpa using hL.1
                                       omega
      unfold lv_args
      rw [if_neg hw]
      cases j with
      | zero =>
        cases hj
        exact List.mem_cons_self
      | succ j =>
        have := ih (i + 1) hL.2 j v hj
        rw [show i + 1 + j = i + (j + 1) by omega] at this
        exact List.mem_cons_of_mem _ this
  have hle : (lg_sl As).length ≤ kMaxL y := by rw [hsl As h1]; exact h2
  have hl := lv_entry As (n := kMaxL y) hle
  refine ⟨hle, hl.1, ?_, hl.2.1, fun i v hi => ?_⟩
  · unfold kEntry
    rw [List.length_append, List.length_map, List.length_replicate]
    omega
  · unfold kEntry at hi
    by_cases hlt : i < As.length
    · rw [List.getElem?_append_left (by rw [List.length_map]; exact hlt), List.getElem?_map] at hi
      cases ha : As[i]? with
      | none => rw [ha] at hi; cases hi
      | some w =>
        rw [ha] at hi
        cases hi
        have := hl.2.2 _ (hargs As 0 h1 i _ ha)
        rw [Nat.zero_add] at this
        refine ⟨this, ?_⟩
        have := List.all_eq_true.mp h1 _ (List.mem_of_getElem? ha)
        simpa using this
    · rw [List.getElem?_append_right (by rw [List.length_map]; omega)] at hi
      have := List.eq_of_mem_replicate (List.mem_of_getElem? hi)
      cases this
section KE
variable {p : Program} {l : Launch} {e : Env} {R : Room} {s : State} {m : MethodId} {args : Array Value} {below : List Frame} {meth : Method} {c : Code} {D : va_G} {aC : Nat → ClassId} {lw : Nat} {G : kG} {y : Nat} {P : kO → kH → Prop} {MC MS : Nat}
theorem kEnds_met (hx : p.tables.exec = Jvm.exec) (hb : c.code = kBytes y) (hret : meth.sig.returnType = kRet y) (hlocks : meth.locks = false)
    (hthr : ∀ (pc E : Nat) (st : List Value) (h : kH) (lo : kL) (H : Heap) (locs : List Loc) (cells slots : Nat) (LS : Array Slot), kThr y pc = some E → (st.map fun v => v.category).sum ≤ 8 → P (.inr E) h → kR D aC lw h H → va_S (fun q => lw ≤ q) s.heap H locs → kLo (kMaxL y) LS lo → cells + 1 ≤ MC → slots + 6 ≤ MS → W p l e R s m args below meth c H locs cells slots (vx_MQ below (kQ D aC lw P) (kXC D aC lw P) args s MC MS (fun q => lw ≤ q)) (F0 m pc LS st)) :
    kEnds D aC lw p l e R s m args below meth c (vx_MQ below (kQ D aC lw P) (kXC D aC lw P) args s MC MS (fun q => lw ≤ q)) y P MC MS := by
  refine ⟨?_, ?_, ?_, hthr⟩
  · intro pc x ty h H locs cells slots LS hd hr hn hP hR hS hc hs
    refine vx_ret (W.widen hc hs ?_)
    exact W.zret hx hb (hret.trans hr) hn (fun t ht hW => ⟨⟨_, h, rfl, hP, by rw [ht]; exact hR⟩, hS.F ht⟩) hS.2.2 hd hlocks
  · intro pc v h H locs cells slots LS hd hr hv hP hR hS hc hs
    refine vx_ret (W.widen hc hs ?_)
    obtain ⟨rt, hrt, hk⟩ : ∃ rt, kRet y = some rt ∧ ((∃ n, rt = .object n) ∨ ∃ t, rt = .array t) := by
      unfold kRrf at hr
      split at hr
      · rename_i n hn; exact ⟨_, hn, Or.inl ⟨_, rfl⟩⟩
      · rename_i n hn; exact ⟨_, hn, Or.inr ⟨_, rfl⟩⟩
      · cases hr
    have hv2 : v = .null ∨ ∃ a, v = .ref a := by
      cases v with
      | ref a => exact Or.inr ⟨a, rfl⟩
      | null => exact Or.inl rfl
      | _ => simp [Value.isRef] at hv
    exact W.aret hx hb (hret.trans hrt) hk hv2 (fun t ht hW => ⟨⟨_, h, rfl, hP, by rw [ht]; exact hR⟩, hS.F ht⟩) hS.2.2 hd hlocks
  · intro pc h H locs cells slots LS hd hr hP hR hS hc hs
    refine vx_ret (W.widen hc hs ?_)
    exact W.vret hx hb (hret.trans hr) (fun t ht hW => ⟨⟨_, h, rfl, hP, by rw [ht]; exact hR⟩, hS.F ht⟩) hS.2.2 hd hlocks
end KE
theorem kW_MQ {p : Program} {l : Launch} {e : Env} {R : Room} {s : State} {m : MethodId} {args : Array Value} {below : List Frame} {meth : Method} {c : Code} {H : Heap} {locs : List Loc} {cells slots mc ms : Nat} {Qc : Array Value → State → Outcome → State → Prop} {XC : String → State → State → Prop} {free : Addr → Prop} {g : JFrame} (hno : ∀ E st t, ¬ XC E st t) (w : W p l e R s m args below meth c H locs cells slots (vx_MQ below Qc XC args s mc ms free) g) : W p l e R s m args below meth c H locs cells slots (MQ below Qc args s mc ms free) g := by
  intro T hT X
  obtain ⟨t, a, o, b1, b2, b3⟩ := w T hT X
  refine ⟨t, a, o, b1, b2, ?_⟩
  rcases b3 with b3 | ⟨q, -, E, ce, L, hx, -⟩
  · exact b3
  · exact absurd hx (hno _ _ _)
theorem kMet_of {l : Launch} {y : MethodName} {ws : List Cond} {rm : Room} {Pc : Array Value → State → Prop} {Qc : Array Value → State → Outcome → State → Prop} {XC : String → State → State → Prop} {mc ms : Nat} {free : Addr → Prop} (h : Met l y ws rm Pc Qc mc ms free) : vx_Met l y ws rm Pc Qc XC mc ms free := by
  intro p e ha hc hk s m args below hf hs hP hKK
  obtain ⟨n, o, h1, h2, h3, h4⟩ := h p e ha hc hk s m args below hf hs hP hKK
  exact ⟨n, o, h1, h2, h3, Or.inl h4⟩
theorem kNoexc {l : Launch} {p : Program} {x : MethodName} {S : Spec} {cc bytes : ByteArray} {maxL maxL' : Nat} {ret ret' : Option FieldType} {e : Env} {s s₁ : State} {m : MethodId} {args : Array Value} {below : List Frame} {meth : Method} {c : Code} (B : BodyLoose p l x S cc maxL ret e s m args below meth c s₁) (h : (Cond.code x bytes maxL' ret').before args s = true) : ∀ z ∈ c.exceptionTable.toList, False := by
  obtain ⟨meth9, c9, h1, h2, -, -, -, -, h7, -⟩ := Cond.code_spec B.named h
  cases Option.some.inj (h1.symm.trans B.method)
  cases Option.some.inj (h2.symm.trans (Stand.of_body B).code)
  intro z hz
  rw [Array.isEmpty_iff.mp h7] at hz
  cases hz
set_option maxHeartbeats 2000000 in
/-- the body of a method, from its entry -/
theorem kBody {l : Launch} {D : va_G} {aC : Nat → ClassId} {lw : Nat} {G : kG} {d y : Nat} {As : List Value} {h : kH} {mc ms : Nat} {P : kO → kH → Prop} (hl : l.stackTraces = false) (hM : kChM y = true)
    (IH : ∀ (y1 : Nat) (As : List Value) (h : kH) (mc ms : Nat) (P : kO → kH → Prop), kChM y1 = true → (plainName (kNm y1).cls = true ∨ ∀ E h1, ¬ P (.inr E) h1) → kRun G d y1 As h mc ms P → kMet D aC lw G l d y1 As h mc ms P)
    (w : kRun G (d + 1) y As h mc ms P) {p : Program} {e : Env} {s : State} {m : MethodId} {args : Array Value} {below : List Frame} {meth : Method} {c : Code} {s₁ : State} (B : BodyLoose p l (kNm y) (headSpec (kWs y) (kRm (d + 1) mc ms)) (kBytes y) (kMaxL y) (kRet y) e s m args below meth c s₁) (hml : c.maxLocals = kMaxL y) (hexc : kHh y = [] → ∀ x ∈ c.exceptionTable.toList, False) (hexh : kHh y = [] ∨ c.exceptionTable.toList = tableOf (kHh y))
    (hv : va_Pc As (fun U => kK D aC lw G U ∧ kR D aC lw h U.heap) args s) :
    W p l e (headSpec (kWs y) (kRm (d + 1) mc ms)).room s m args below meth c s.heap [] 0 0 (vx_MQ below (kQ D aC lw P) (kXC D aC lw P) args s mc ms (fun q => lw ≤ q)) (entryFrame m args (kMaxL y)) := by
  obtain ⟨rfl, hK, hR⟩ := hv
  obtain ⟨⟨ha1, ha2⟩, w⟩ := w
  obtain ⟨w1, w2, hd, hpl, hml40, hcl, hK0, hK1, hK2, hH0, hH2⟩ := kM_ok hM
  obtain ⟨hle, hL⟩ := kLo_entry (y := y) ha1 ha2
  have hts0 := atoms_spec (ws := kWs y) B.pre
  have hts : ∀ w ∈ kTbl, w.before As.toArray s = true := fun w hw => hts0 w (by unfold kWs; exact List.mem_cons_of_mem _ hw)
  have hown : s.vm.findClass (kCls (kCn y)) = some m.cls := by rw [hcl]; exact findClass_of_methodNamed B.named
  have hini : kIni y = true → meth.name = "<init>" := by
    intro hi
    have hk2 : kKin y = 2 := by simpa [kIni] using hi
    rw [(name_of_methodNamed B.named B.method).1]
    exact (hK2 hk2).2
  have hend := kEnds_met (P := P) (D := D) (aC := aC) (lw := lw) (MC := mc) (MS := ms) (l := l) (e := e) (R := (headSpec (kWs y) (kRm (d + 1) mc ms)).room) (s := s) (m := m) (args := As.toArray) (below := below) B.exec B.bytes B.returns B.notSynchronized
    (fun pc E st h lo H locs cells slots LS hth hw hP hR hS hL hc hs => kThrow hl B.exec B.bytes hml hown hts hK B.notSynchronized hexc ⟨rfl, rfl, Nat.le_add_left 6 (d + 1), Nat.le_add_left 200 (64 * (d + 1))⟩ hth hw hP hR hS hL hc hs)
  have Z : kZ D aC lw G p l e (headSpec (kWs y) (kRm (d + 1) mc ms)).room s m As.toArray below meth c (vx_MQ below (kQ D aC lw P) (kXC D aC lw P) As.toArray s mc ms (fun q => lw ≤ q)) y (kRun G d) P d mc ms :=
    ⟨B.exec, B.bytes, hml, hown, hts, hK, hini, ⟨rfl, rfl, Nat.le_refl _, Nat.le_refl _⟩, hexh, IH, hend⟩
  have K := w _ (ks_all Z) s.heap [] 0 0 _ hR va_S.rf hL (Nat.le_of_eq (Nat.zero_add _)) (Nat.le_of_eq (Nat.zero_add _))
  rw [lg_entry_eq]
  exact K
set_option maxHeartbeats 2000000 in
theorem kSound {l : Launch} {D : va_G} {aC : Nat → ClassId} {lw : Nat} {G : kG} (hl : l.stackTraces = false) : ∀ (d y : Nat) (As : List Value) (h : kH) (mc ms : Nat) (P : kO → kH → Prop), kChM y = true → (plainName (kNm y).cls = true ∨ ∀ E h1, ¬ P (.inr E) h1) → kRun G d y As h mc ms P → kMet D aC lw G l d y As h mc ms P := by
  intro d
  induction d with
  | zero => intro y As h mc ms P _ _ w; exact w.elim
  | succ d ih =>
    intro y As h mc ms P hM hpn w
    obtain ⟨w1, w2, hd, hpl, hml40, hcl, hK0, hK1, hK2, hH0, hH2⟩ := kM_ok hM
    by_cases hp : plainName (kNm y).cls = true
    · by_cases hh : kHh y = []
      · exact vx_ofW hp (kWs_code hh) (fun p e s m args below meth c s₁ B hml hexc hv => kBody hl hM ih w B hml (fun _ => hexc) (Or.inl hh) hv)
      · exact vx_ofWH hp (kWs_with hh) (fun p e s m args below meth c s₁ B hml hv => kBody hl hM ih w B hml (fun h9 => absurd h9 hh) (Or.inr (vx_table (x := kNm y) B (atoms_spec (ws := kWs y) B.pre _ (by rw [kWs_with hh]; exact List.mem_cons_self)))) hv)
    · have hno := hpn.resolve_left hp
      have hpf : plainFor (kNm y) = true ∧ kHh y = [] := by
        rw [Bool.or_eq_true, Bool.and_eq_true] at hpl
        have := hpl.resolve_left hp
        exact ⟨this.1, of_decide_eq_true this.2⟩
      have hnx : ∀ E st t, ¬ kXC D aC lw P E st t := fun E st t hx => by obtain ⟨i9, h9, -, hp9, -⟩ := hx; exact hno _ _ hp9
      have hh := hpf.2
      exact kMet_of (va_MetF hpf.1 (kWs_code hh) (fun p e s m args below meth c s₁ B hml hv => kW_MQ hnx (kBody hl hM ih w B hml (fun _ => kNoexc B (atoms_spec (ws := kWs y) B.pre _ (by rw [kWs_code hh]; exact List.mem_cons_self))) (Or.inl hh) hv)))
