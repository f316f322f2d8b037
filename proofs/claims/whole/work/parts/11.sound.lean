/-! what the small machine's states are on the real one -/
def kcv (aC : Nat → ClassId) : kE → va_E
  | .inl q => .inl (aC q.1, q.2)
  | .inr o => .inr o
def kR (D : va_G) (aC : Nat → ClassId) (lw : Nat) (h : kH) (H : Heap) : Prop := ∀ (a : Nat) (e : kE), h a = some e → lw ≤ a ∧ va_at D classes (a, kcv aC e) H
def kTys (aC : Nat → ClassId) : List (ClassId × FieldType) := kArt.zipIdx.map (fun q => (aC q.2, q.1))
theorem kTys_at {aC : Nat → ClassId} {k : Nat} {ty : FieldType} (h : kArt[k]? = some ty) : (kTys aC)[k]? = some (aC k, ty) := by
  simp [kTys, List.getElem?_map, List.getElem?_zipIdx, h]
theorem kR.one {D : va_G} {aC : Nat → ClassId} {lw : Nat} {h : kH} {H : Heap} (hR : kR D aC lw h H) {a : Nat} {e : kE} (ha : h a = some e) : va_P D classes [(a, kcv aC e)] H := by
  intro k q hk
  have hz : k < 1 := (List.getElem?_eq_some_iff.mp hk).1
  rw [show k = 0 by omega] at hk
  cases hk
  exact (hR a e ha).2
theorem kR.set {D : va_G} {aC : Nat → ClassId} {lw : Nat} {h : kH} {H H1 : Heap} (hR : kR D aC lw h H) {a : Nat} {e0 e : kE} (ha : h a = some e0) (hq : va_at D classes (a, kcv aC e) H1) (oq : ∀ q : Nat, q ≠ a → H1[q]? = H[q]?) : kR D aC lw (kset h a e) H1 := by
  intro b f hb
  by_cases hab : b = a
  · subst hab
    rw [kset_self] at hb
    cases hb
    exact ⟨(hR _ _ ha).1, hq⟩
  · rw [kset_ne hab] at hb
    exact ⟨(hR b f hb).1, ((hR b f hb).2).kept (oq b hab)⟩
theorem kR.new {D : va_G} {aC : Nat → ClassId} {lw : Nat} {h : kH} {H H1 : Heap} (hR : kR D aC lw h H) {e : kE} (hl : lw ≤ H.size) (hq : va_at D classes (H.size, kcv aC e) H1) (oq : ∀ q : Nat, q < H.size → H1[q]? = H[q]?) : h H.size = none ∧ kR D aC lw (kset h H.size e) H1 := by
  refine ⟨?_, ?_⟩
  · cases hz : h H.size with
    | none => rfl
    | some f => exact absurd ((hR _ f hz).2.lt) (Nat.lt_irrefl _)
  · intro b f hb
    by_cases hab : b = H.size
    · subst hab
      rw [kset_self] at hb
      cases hb
      exact ⟨hl, hq⟩
    · rw [kset_ne hab] at hb
      exact ⟨(hR b f hb).1, ((hR b f hb).2).kept (oq b ((hR b f hb).2.lt))⟩
/-- the locals -/
def kLo (n : Nat) (LS : Array Slot) (lo : kL) : Prop := LS.size = n ∧ lo.length = n ∧ lv_wf LS ∧ ∀ (i : Nat) (v : Value), lo[i]? = some (some v) → LS[i]? = some (.val v) ∧ v.category = 1
def kl (lo : kL) : List (Nat × Value) := lo.zipIdx.filterMap (fun q => q.1.map (fun v => (q.2, v)))
theorem kl_mem {lo : kL} {i : Nat} {v : Value} : (i, v) ∈ kl lo ↔ lo[i]? = some (some v) := by
  unfold kl
  rw [List.mem_filterMap]
  constructor
  · rintro ⟨⟨o, j⟩, hm, ho⟩
    rw [List.mem_zipIdx_iff_getElem?] at hm
    cases o with
    | none => simp at ho
    | some w =>
      simp at ho
      obtain ⟨rfl, rfl⟩ := ho
      exact hm
  · intro h
    exact ⟨(some v, i), List.mem_zipIdx_iff_getElem?.mpr h, rfl⟩
theorem kl_at {lo : kL} {i : Nat} {v : Value} (h : lo[i]? = some (some v)) : ∃ j : Nat, (kl lo)[j]? = some (i, v) := List.getElem?_of_mem (kl_mem.mpr h)
theorem kLo.at {n : Nat} {LS : Array Slot} {lo : kL} (h : kLo n LS lo) {i : Nat} {v : Value} (hl : lo[i]? = some (some v)) : LS[i]? = some (.val v) := (h.2.2.2 i v hl).1
theorem kLo.lt {n : Nat} {LS : Array Slot} {lo : kL} (h : kLo n LS lo) {i : Nat} (hi : i < lo.length) : i < n := h.2.1 ▸ hi
theorem kLo.has {n : Nat} {LS : Array Slot} {lo : kL} (h : kLo n LS lo) : lv_has LS n (kl lo) := ⟨h.1, h.2.2.1, fun q hq => h.at (kl_mem.mp hq)⟩
theorem kLt {lo : kL} {i : Nat} {o : Option Value} (h : lo[i]? = some o) : i < lo.length := (List.getElem?_eq_some_iff.mp h).1
theorem kLo.of {n : Nat} {LS LS2 : Array Slot} {lo : kL} {i : Nat} {v : Value} (h : kLo n LS lo) (h2 : lv_has LS2 n ((i, v) :: (kl lo).filter (fun q => !(q.1 == i) && !(q.1 + 1 == i && q.2.category == 2)))) (hv : v.category = 1) : kLo n LS2 (lo.set i (some v)) := by
  refine ⟨h2.1, by rw [List.length_set]; exact h.2.1, h2.2.1, fun j w hj => ?_⟩
  by_cases hij : j = i
  · subst hij
    have hl : j < lo.length := by
      have := kLt hj
      rwa [List.length_set] at this
    rw [List.getElem?_set_self hl] at hj
    cases hj
    exact ⟨h2.2.2 _ List.mem_cons_self, hv⟩
  · rw [List.getElem?_set_ne (Ne.symm hij)] at hj
    obtain ⟨g1, g2⟩ := h.2.2.2 j w hj
    refine ⟨h2.2.2 (j, w) (List.mem_cons_of_mem _ (List.mem_filter.mpr ⟨kl_mem.mpr hj, ?_⟩)), g2⟩
    simp [hij, g2]
def kRm (d mc ms : Nat) : Room := { frames := d + 6, cells := mc, slots := ms, locals := 64 * d + 200 }
def kQ (D : va_G) (aC : Nat → ClassId) (lw : Nat) (P : kO → kH → Prop) : Array Value → State → Outcome → State → Prop := fun _ st oc t => (∃ (v : Option Value) (h1 : kH), oc = .returned v ∧ P (.inl v) h1 ∧ kR D aC lw h1 t.heap) ∧ va_F (fun q => lw ≤ q) st t
def kXC (D : va_G) (aC : Nat → ClassId) (lw : Nat) (P : kO → kH → Prop) : String → State → State → Prop := fun E st t => ∃ (i : Nat) (h1 : kH), E = kExn i ∧ P (.inr i) h1 ∧ kR D aC lw h1 t.heap ∧ va_F (fun q => lw ≤ q) st t
/-- what stays true of the tables and of the old cells while the law runs -/
def kK (D : va_G) (aC : Nat → ClassId) (lw : Nat) (G : kG) (U : State) : Prop := va_K D classes (kTys aC) U ∧ (∀ w ∈ kNst, va_Nw w U) ∧ va_X G.1 G.2.1 G.2.2 U U.heap ∧ G.1 < U.heap.size ∧ G.1 < lw ∧ lw ≤ U.heap.size ∧ (∀ C ∈ kAOs, va_AO C U) ∧ kThrK lw U
def kMet (D : va_G) (aC : Nat → ClassId) (lw : Nat) (G : kG) (l : Launch) (d y : Nat) (As : List Value) (h : kH) (mc ms : Nat) (P : kO → kH → Prop) : Prop :=
  vx_Met l (kNm y) (kWs y) (kRm d mc ms) (va_Pc As (fun U => kK D aC lw G U ∧ kR D aC lw h U.heap)) (kQ D aC lw P) (kXC D aC lw P) mc ms (fun q => lw ≤ q)
def kOK (aC : Nat → ClassId) (D : va_G) (lw : Nat) (y : Nat) (p : Program) (l : Launch) (e : Env) (R : Room) (s : State) (m : MethodId) (args : Array Value) (below : List Frame) (meth : Method) (c : Code) (Q : State → Prop) (MC MS : Nat) : kX := fun pc lo st h mc ms =>
  ∀ (H : Heap) (locs : List Loc) (cells slots : Nat) (LS : Array Slot), kR D aC lw h H → va_S (fun q => lw ≤ q) s.heap H locs → kLo (kMaxL y) LS lo → cells + mc ≤ MC → slots + ms ≤ MS → W p l e R s m args below meth c H locs cells slots Q (F0 m pc LS st)
section KS
variable {p : Program} {l : Launch} {e : Env} {R : Room} {s : State} {m : MethodId} {args : Array Value} {below : List Frame} {meth : Method} {c : Code} {H : Heap} {locs : List Loc} {cells slots : Nat} {Q : State → Prop}
variable {D : va_G} {aC : Nat → ClassId} {lw : Nat} {G : kG} {y pc : Nat} {LS : Array Slot} {st : List Value} {h : kH}
theorem kGet (hx : p.tables.exec = Jvm.exec) (hb : c.code = kBytes y) (hown : s.vm.findClass (kCls (kCn y)) = some m.cls) (hts : ∀ w ∈ kTbl, w.before args s = true) (hK : kK D aC lw G s) (hR : kR D aC lw h H) {i a ci k : Nat} {fs : List Value} {v : Value}
    (hf : kFld (kCn y) i = some (ci, k)) (ha : h a = some (kOb ci fs)) (hv : fs[k]? = some v) (hdg : decode (kBytes y) pc = .ok (.getfield i, 3))
    (kk : W p l e R s m args below meth c H locs cells slots Q (F0 m (pc + 3) LS (v :: st))) : W p l e R s m args below meth c H locs cells slots Q (F0 m pc LS (.ref a :: st)) := by
  obtain ⟨r, hc, hk, hin, hl⟩ := kFld_ok hf
  exact va_get (C := r.1) (T := r.2.1) (N := r.2.2) hx hb hts hin hown hK.1 (kR.one hR ha) 0 rfl hc k hk (hts _ hl) (fun _ h9 => h9) hv hdg kk
theorem kPutW (hx : p.tables.exec = Jvm.exec) (hb : c.code = kBytes y) (hown : s.vm.findClass (kCls (kCn y)) = some m.cls) (hts : ∀ w ∈ kTbl, w.before args s = true) (hK : kK D aC lw G s) (hR : kR D aC lw h H) (hini : kIni y = true → meth.name = "<init>") {i a ci k : Nat} {fs : List Value} {v : Value}
    (hf : kFld (kCn y) i = some (ci, k)) (ha : h a = some (kOb ci fs)) (hp : kPut y ci k = true) (hl : k < fs.length) (hn : narrow (kFty ci k) v = v) (hfit : fits (kFty ci k) v = true) (hdg : decode (kBytes y) pc = .ok (.putfield i, 3))
    (kk : ∀ (H1 : Heap) (sl : Nat), va_at D classes (a, kcv aC (kOb ci (fs.set k v))) H1 → H1.size = H.size → (∀ q : Nat, q ≠ a → H1[q]? = H[q]?) → W p l e R s m args below meth c H1 (locs ++ [⟨a, sl⟩]) cells slots Q (F0 m (pc + 3) LS st)) : W p l e R s m args below meth c H locs cells slots Q (F0 m pc LS (v :: .ref a :: st)) := by
  obtain ⟨r, hc, hk, hin, hlk⟩ := kFld_ok hf
  obtain ⟨hty, hnm⟩ := kCls_ok hc
  have hap := va_apart (own := kCls (kCn y)) hts hin (kFty ci) hty hnm hK.1 hc
  obtain ⟨r', h1, cell, q1, q2, q3, q4⟩ := (hR a _ ha).2
  have hr : r' = r := Option.some.inj (h1.symm.trans hc)
  subst hr
  obtain ⟨hS, hfc, kC, hkC, hkind⟩ := hK.1.1 ci _ hc
  obtain ⟨cf, kf, fi, f, hi, hsl⟩ := hS k hk
  have hlay := hts _ (hin _ (u_in_lay hk))
  have hst := (u_facts hfc hkC (u_lays hts hin hk) hi).1
  have fin : ∀ (H' : Heap), H'[a]? = some (cell.setSlot f.slot v) → H'.size = H.size → (∀ q : Nat, q ≠ a → H'[q]? = H[q]?) → W p l e R s m args below meth c H' (locs ++ [⟨a, f.slot⟩]) cells slots Q (F0 m (pc + 3) LS st) := by
    intro H' e1 e2 e3
    rw [hsl] at e1
    exact kk H' _ ⟨_, hc, t_OB.to (V := updV (vp_V fs) k v) ⟨_, e1, q2, q3, t_set q4 hap hk v⟩ (fun j _ => vp_updV_set hl v j)⟩ e2 e3
  by_cases hfin : (r'.2.1 k).2.2.2 = true
  · unfold u_lay at hlay
    rw [if_pos hfin] at hlay
    obtain ⟨hi9, hdecl⟩ := kPut_ok hp hc hfin
    have hcf : m.cls = cf := by
      obtain ⟨_, _, c', _, _, _, -, -, hf', -, -, -, hown2, -⟩ := Cond.laysFinal_spec hlay
      have e1 : c' = cf := by have := hi.symm.trans hf'; simp at this; exact this.1.symm
      rw [hdecl] at hown2
      rw [← e1]; exact Option.some.inj (hown.symm.trans hown2)
    have h6 := u_fits hfc hkC hkind (Or.inr hlay) hi (hty k hk) hn hfit
    exact W.putFinK hx hb hown (hts _ hlk) hi hst hcf (hini hi9) (by rw [q2]; exact h6) q1 q3 (by rw [hsl]; exact k2_hasslot (q4 k hk)) rfl rfl hdg fin
  · unfold u_lay at hlay
    rw [if_neg hfin] at hlay
    have h6 := u_store hfc hkC hkind hlay hi (hty k hk) hn hfit
    exact W.putK hx hb (f := f) ⟨hown, hts _ hlk, ⟨_, _, _, hi⟩, hst⟩ (by rw [q2]; exact h6) q1 q3 (by rw [hsl]; exact k2_hasslot (q4 k hk)) rfl rfl hdg fin
theorem kIast (hx : p.tables.exec = Jvm.exec) (hb : c.code = kBytes y) (hK : kK D aC lw G s) (hR : kR D aC lw h H) {a n : Nat} {f : Nat → Int32} {i x : Int32} (ha : h a = some (kAI 0 n f)) (hi : vp_in i n) (hdg : decode (kBytes y) pc = .ok (.iastore, 1))
    (kk : ∀ (H1 : Heap) (sl : Nat), va_at D classes (a, kcv aC (kAI 0 n (upd f i.toNatClampNeg x))) H1 → H1.size = H.size → (∀ q : Nat, q ≠ a → H1[q]? = H[q]?) → W p l e R s m args below meth c H1 (locs ++ [⟨a, sl⟩]) cells slots Q (F0 m (pc + 1) LS st)) : W p l e R s m args below meth c H locs cells slots Q (F0 m pc LS (.int x :: .int i :: .ref a :: st)) := by
  have hc : H[a]? = some (vp_cell (aC 0) (n, .inl f)) := (hR a _ ha).2
  refine W.iast hx hb hc ((hK.1.2 0 _ (kTys_at (k := 0) rfl)).1 n (fun j => .int (f j))) (fun q => by cases q) (by show ¬ (i < 0 ∨ (arrV _ _ _).slots.size ≤ _); rw [arrV_size]; exact hi) rfl rfl hdg fun H1 e z oq => ?_
  refine kk H1 _ ?_ z oq
  show H1[a]? = some (vp_cell _ _)
  rw [e]
  show some ((vp_cell (aC 0) (n, .inl f)).setSlot _ _) = _
  rw [vp_cell_i, vp_cell_i, arrV_store]
  congr 2
  funext q
  by_cases hq : q = i.toNatClampNeg
  · subst hq
    simp [updV, upd]
  · simp [updV, upd, hq]
theorem kZast (hx : p.tables.exec = Jvm.exec) (hb : c.code = kBytes y) (hK : kK D aC lw G s) (hR : kR D aC lw h H) {a n : Nat} {f : Nat → Int32} {i x : Int32} (ha : h a = some (kAI 1 n f)) (hi : vp_in i n) (hdg : decode (kBytes y) pc = .ok (.bastore, 1))
    (kk : ∀ (H1 : Heap) (sl : Nat), va_at D classes (a, kcv aC (kAI 1 n (upd f i.toNatClampNeg (vp_nar .boolean x)))) H1 → H1.size = H.size → (∀ q : Nat, q ≠ a → H1[q]? = H[q]?) → W p l e R s m args below meth c H1 (locs ++ [⟨a, sl⟩]) cells slots Q (F0 m (pc + 1) LS st)) : W p l e R s m args below meth c H locs cells slots Q (F0 m pc LS (.int x :: .int i :: .ref a :: st)) := by
  have hc : H[a]? = some (vp_cell (aC 1) (n, .inl f)) := (hR a _ ha).2
  refine W.zast hx hb hc ((hK.1.2 1 _ (kTys_at (k := 1) rfl)).1 n (fun j => .int (f j))) (fun q => by cases q) (by show ¬ (i < 0 ∨ (arrV _ _ _).slots.size ≤ _); rw [arrV_size]; exact hi) rfl rfl hdg fun H1 e z oq => ?_
  refine kk H1 _ ?_ z oq
  show H1[a]? = some (vp_cell _ _)
  rw [e]
  show some ((vp_cell (aC 1) (n, .inl f)).setSlot _ _) = _
  rw [vp_cell_i, vp_cell_i, arrV_store]
  congr 2
  funext q
  by_cases hq : q = i.toNatClampNeg
  · subst hq
    simp only [updV, upd, if_true]
    rfl
  · simp [updV, upd, hq]
theorem kLast (hx : p.tables.exec = Jvm.exec) (hb : c.code = kBytes y) (hK : kK D aC lw G s) (hR : kR D aC lw h H) {a n : Nat} {f : Nat → Int64} {i : Int32} {x : Int64} (ha : h a = some (kAJ 2 n f)) (hi : vp_in i n) (hdg : decode (kBytes y) pc = .ok (.lastore, 1))
    (kk : ∀ (H1 : Heap) (sl : Nat), va_at D classes (a, kcv aC (kAJ 2 n (vp_updL f i.toNatClampNeg x))) H1 → H1.size = H.size → (∀ q : Nat, q ≠ a → H1[q]? = H[q]?) → W p l e R s m args below meth c H1 (locs ++ [⟨a, sl⟩]) cells slots Q (F0 m (pc + 1) LS st)) : W p l e R s m args below meth c H locs cells slots Q (F0 m pc LS (.long x :: .int i :: .ref a :: st)) := by
  have hc : H[a]? = some (vp_cell (aC 2) (n, .inr (.inl f))) := (hR a _ ha).2
  refine W.last hx hb hc ((hK.1.2 2 _ (kTys_at (k := 2) rfl)).1 n (fun j => .long (f j))) (fun q => by cases q) (by show ¬ (i < 0 ∨ (arrV _ _ _).slots.size ≤ _); rw [arrV_size]; exact hi) rfl rfl hdg fun H1 e z oq => ?_
  refine kk H1 _ ?_ z oq
  show H1[a]? = some (vp_cell _ _)
  rw [e]
  show some ((vp_cell (aC 2) (n, .inr (.inl f))).setSlot _ _) = _
  rw [vp_cell_l, vp_cell_l, arrV_store]
  congr 2
  funext q
  by_cases hq : q = i.toNatClampNeg
  · subst hq
    simp [updV, vp_updL]
  · simp [updV, vp_updL, hq]
theorem kAast (hx : p.tables.exec = Jvm.exec) (hb : c.code = kBytes y) (hK : kK D aC lw G s) (hR : kR D aC lw h H) {a n k v ci : Nat} {fs : List Value} {r : vw_C} {f : Nat → Option Nat} {i : Int32} (hk : kArt[k]? = some (.object r.1)) (ha : h a = some (kAR k n f)) (hv : h v = some (kOb ci fs)) (hcl : classes[ci]? = some r) (hi : vp_in i n) (hdg : decode (kBytes y) pc = .ok (.aastore, 1))
    (kk : ∀ (H1 : Heap) (sl : Nat), va_at D classes (a, kcv aC (kAR k n (va_up f i.toNatClampNeg (some v)))) H1 → H1.size = H.size → (∀ q : Nat, q ≠ a → H1[q]? = H[q]?) → W p l e R s m args below meth c H1 (locs ++ [⟨a, sl⟩]) cells slots Q (F0 m (pc + 1) LS st)) : W p l e R s m args below meth c H locs cells slots Q (F0 m pc LS (.ref v :: .int i :: .ref a :: st)) := by
  have hc : H[a]? = some (vp_cell (aC k) (n, .inr (.inr (.inr (.inr f))))) := (hR a _ ha).2
  have hlt : i.toNatClampNeg < n := Nat.not_le.mp fun q => hi (Or.inr q)
  have h0 : ¬ i < 0 := fun q => hi (Or.inl q)
  obtain ⟨r', hr', cellV, g1, g2, g3, -⟩ := (hR v _ hv).2
  have hcls := (hK.1.1 ci r hcl).2
  obtain ⟨kA, comp, k1, k2, k3, -⟩ := (hK.1.2 k _ (kTys_at hk)).2
  have hcomp : comp = D.1 ci := Option.some.inj (k3.symm.trans hcls.1)
  subst hcomp
  obtain ⟨kC, hkC, -⟩ := hcls.2
  refine W.aast hx hb hc (fun q h => by cases h) (fun h => by cases h) k1 k2 rfl hkC ⟨h0, by show _ < (arrV _ _ _).slots.size; rw [arrV_size]; exact hlt⟩ g1 (fun q h => by rw [g3] at h; cases h) (by rw [g2]; exact hkC) (by rw [g2]; exact va_assign hcls) rfl rfl hdg fun H1 e z oq => ?_
  refine kk H1 _ ?_ z oq
  show H1[a]? = some (vp_cell _ _)
  rw [e]
  show some ((vp_cell (aC k) (n, .inr (.inr (.inr (.inr f))))).setSlot _ _) = _
  rw [vp_cell_q, vp_cell_q, arrV_store]
  congr 2
  funext q
  by_cases hq : q = i.toNatClampNeg
  · subst hq
    simp [updV, va_up, va_rf]
  · simp [updV, va_up, hq]
theorem kNn (z : Int32) (hz : ¬ z < 0) : z.toInt = (z.toNatClampNeg : Int) := by
  have hz0 : (0 : Int) ≤ z.toInt := by
    have := Int32.not_lt.mp hz
    simpa using Int32.le_iff_toInt_le.mp this
  show z.toInt = ((z.toInt.toNat : Nat) : Int)
  omega
theorem kCopy {MC MS d : Nat} {lo : kL} (hx : p.tables.exec = Jvm.exec) (hb : c.code = kBytes y) (hml : c.maxLocals = kMaxL y) (hown : s.vm.findClass (kCls (kCn y)) = some m.cls) (hts : ∀ w ∈ kTbl, w.before args s = true) (hK : kK D aC lw G s) (hR : kR D aC lw h H) (hS : va_S (fun q => lw ≤ q) s.heap H locs) (hL : kLo (kMaxL y) LS lo) (hroom : R.cells = MC ∧ R.slots = MS ∧ d + 6 ≤ R.frames ∧ 64 * d + 200 ≤ R.locals)
    {i a0 a n0 n1 : Nat} {f g : Nat → Int32} {sp dp n : Int32} (hm : kNat (kCn y) i = some 0) (ha0 : h a0 = some (kAI 0 n0 f)) (ha1 : h a = some (kAI 0 n1 g)) (h1 : ¬ sp < 0) (h2 : ¬ dp < 0) (h3 : ¬ n < 0) (h4 : sp.toNatClampNeg + n.toNatClampNeg ≤ n0) (h5 : dp.toNatClampNeg + n.toNatClampNeg ≤ n1) (hw : (st.map fun v => v.category).sum ≤ 8) (hdg : decode (kBytes y) pc = .ok (.invokestatic i, 3))
    (kk : ∀ (H1 : Heap) (locs1 : List Loc), va_at D classes (a, kcv aC (kAI 0 n1 (va_cpy f g sp.toNatClampNeg dp.toNatClampNeg n.toNatClampNeg))) H1 → (∀ q : Nat, q ≠ a → H1[q]? = H[q]?) → va_S (fun q => lw ≤ q) s.heap H1 locs1 → W p l e R s m args below meth c H1 locs1 cells slots Q (F0 m (pc + 3) LS st)) : W p l e R s m args below meth c H locs cells slots Q (F0 m pc LS (.int n :: .int dp :: .ref a :: .int sp :: .ref a0 :: st)) := by
  obtain ⟨hlink, hnat, hstat, hini⟩ := kNat_ok0 hm
  obtain ⟨r1, r2, r3, r4⟩ := hroom
  have hfw : nativeFrameWords "java/lang/System" "arraycopy" 5 ≤ 100 := by decide +kernel
  intro T hT X
  have hc0 : H[a0]? = some (vp_cell (aC 0) (n0, .inl f)) := (hR a0 _ ha0).2
  have hc1 : H[a]? = some (vp_cell (aC 0) (n1, .inl g)) := (hR a _ ha1).2
  obtain ⟨-, k0, hk0, cm0, hkk0⟩ := (hK.1.2 0 _ (kTys_at (k := 0) rfl)).1 n0 (fun j => .int (f j))
  obtain ⟨vm', X', step⟩ := X.arraycopy hx hown (hts _ hlink) (hts _ hnat) (hts _ hstat) (hts _ hini) (src := a0) (dst := a) (cs := vp_cell (aC 0) (n0, .inl f)) (cd := vp_cell (aC 0) (n1, .inl g)) (srcPos := sp) (destPos := dp) (n := n) (by rw [hT]; exact hc0) (by rw [hT]; exact hc1)
    (fun _ h => by cases h) (fun _ h => by cases h) (fun h => by cases h) (fun h => by cases h) hk0 hk0 hkk0 hkk0 (by simp [refKind]) h1 h2 h3
    (by rw [kNn sp h1, kNn n h3]; show ¬ _ > ((arrV (aC 0) n0 (fun j => .int (f j))).slots.size : Int); rw [arrV_size]; omega)
    (by rw [kNn dp h2, kNn n h3]; show ¬ _ > ((arrV (aC 0) n1 (fun j => .int (g j))).slots.size : Int); rw [arrV_size]; omega)
    (fun vm₁ _ i hi => by
      have e : (vp_cell (aC 0) (n0, .inl f)).slots.getD (sp.toNatClampNeg + i) .null = .int (f (sp.toNatClampNeg + i)) := by
        show (arrV (aC 0) n0 (fun j => .int (f j))).slots.getD _ _ = _
        rw [Array.getD_eq_getD_getElem?, arrV_read _ _ (by omega)]
        rfl
      refine ⟨?_, ?_⟩
      · rw [e]; rfl
      · rw [e]
        exact trivial)
    (g := F0 m pc LS (.int n :: .int dp :: .ref a :: .int sp :: .ref a0 :: st)) rfl (by rw [hml]; exact hL.1) (rest := st) rfl (by rw [hb]; exact hdg) (by omega) (by show 2 * 0 + _ + _ ≤ _; omega)
  have e1 : copied (vp_cell (aC 0) (n0, .inl f)) (vp_cell (aC 0) (n1, .inl g)) sp dp n = vp_cell (aC 0) (n1, .inl (va_cpy f g sp.toNatClampNeg dp.toNatClampNeg n.toNatClampNeg)) := va_copied (fun z => .int z) (aC 0) (aC 0) f g h4
  rw [e1] at X' step
  have hl : a < H.size := (Array.getElem?_eq_some_iff.mp hc1).1
  have hheap : ((T.setVm vm').setCell a (vp_cell (aC 0) (n1, .inl (va_cpy f g sp.toNatClampNeg dp.toNatClampNeg n.toNatClampNeg)))).heap = H.setIfInBounds a (vp_cell (aC 0) (n1, .inl (va_cpy f g sp.toNatClampNeg dp.toNatClampNeg n.toNatClampNeg))) := by rw [← hT]; rfl
  have oq : ∀ q : Nat, q ≠ a → (H.setIfInBounds a (vp_cell (aC 0) (n1, .inl (va_cpy f g sp.toNatClampNeg dp.toNatClampNeg n.toNatClampNeg))))[q]? = H[q]? := fun q hq => by simp [Array.getElem?_setIfInBounds, Ne.symm hq]
  have hlw := (hR a _ ha1).1
  obtain ⟨t, a1, b1⟩ := kk _ _ (show (H.setIfInBounds a _)[a]? = some _ by simp [Array.getElem?_setIfInBounds, hl]) oq ⟨by simp; exact hS.1, fun q g1 g2 => by
      rw [oq q (fun e => g2 (by rw [e]; exact hlw))]
      exact hS.2.1 q g1 g2, fun q hq => by
      rcases List.mem_append.mp hq with h | h
      · exact hS.2.2 q h
      · obtain ⟨z, -, hz⟩ := List.mem_map.mp h
        rw [← hz]
        exact hlw⟩ _ hheap X'
  exact ⟨t, step t a1, b1⟩
theorem kMmin {MC MS d : Nat} {lo : kL} (hx : p.tables.exec = Jvm.exec) (hb : c.code = kBytes y) (hml : c.maxLocals = kMaxL y) (hown : s.vm.findClass (kCls (kCn y)) = some m.cls) (hts : ∀ w ∈ kTbl, w.before args s = true) (hL : kLo (kMaxL y) LS lo) (hroom : R.cells = MC ∧ R.slots = MS ∧ d + 6 ≤ R.frames ∧ 64 * d + 200 ≤ R.locals) {i : Nat} {x z : Int32} (hm : kNat (kCn y) i = some 1) (hw : (st.map fun v => v.category).sum ≤ 8) (hc : cells ≤ MC) (hs : slots ≤ MS) (hdg : decode (kBytes y) pc = .ok (.invokestatic i, 3))
    (kk : W p l e R s m args below meth c H locs cells slots Q (F0 m (pc + 3) LS (.int (if z < x then z else x) :: st))) : W p l e R s m args below meth c H locs cells slots Q (F0 m pc LS (.int z :: .int x :: st)) := by
  obtain ⟨h1, h2, h3, h4⟩ := kNat_ok1 hm
  obtain ⟨r1, r2, r3, r4⟩ := hroom
  exact va_mmin hx hb (hml.trans hL.1.symm) hown (hts _ h1) (hts _ h2) (hts _ h3) (hts _ h4) (by omega) (by omega) (by omega) (by omega) hdg kk
theorem kMmax {MC MS d : Nat} {lo : kL} (hx : p.tables.exec = Jvm.exec) (hb : c.code = kBytes y) (hml : c.maxLocals = kMaxL y) (hown : s.vm.findClass (kCls (kCn y)) = some m.cls) (hts : ∀ w ∈ kTbl, w.before args s = true) (hL : kLo (kMaxL y) LS lo) (hroom : R.cells = MC ∧ R.slots = MS ∧ d + 6 ≤ R.frames ∧ 64 * d + 200 ≤ R.locals) {i : Nat} {x z : Int32} (hm : kNat (kCn y) i = some 2) (hw : (st.map fun v => v.category).sum ≤ 8) (hc : cells ≤ MC) (hs : slots ≤ MS) (hdg : decode (kBytes y) pc = .ok (.invokestatic i, 3))
    (kk : W p l e R s m args below meth c H locs cells slots Q (F0 m (pc + 3) LS (.int (if x < z then z else x) :: st))) : W p l e R s m args below meth c H locs cells slots Q (F0 m pc LS (.int z :: .int x :: st)) := by
  obtain ⟨h1, h2, h3, h4⟩ := kNat_ok2 hm
  obtain ⟨r1, r2, r3, r4⟩ := hroom
  exact va_mmax hx hb (hml.trans hL.1.symm) hown (hts _ h1) (hts _ h2) (hts _ h3) (hts _ h4) (by omega) (by omega) (by omega) (by omega) hdg kk
theorem kNewS (hS : va_S (fun q => lw ≤ q) s.heap H locs) {H1 : Heap} (z1 : H1.size = H.size + 1) (o1 : ∀ q : Nat, q < H.size → H1[q]? = H[q]?) : va_S (fun q => lw ≤ q) s.heap H1 locs :=
  ⟨Nat.le_trans hS.1 (by omega), fun x h1 h2 => (o1 x (Nat.lt_of_lt_of_le h1 hS.1)).trans (hS.2.1 x h1 h2), hS.2.2⟩
theorem kNewW {MC MS d mc ms : Nat} (hx : p.tables.exec = Jvm.exec) (hb : c.code = kBytes y) (hown : s.vm.findClass (kCls (kCn y)) = some m.cls) (hts : ∀ w ∈ kTbl, w.before args s = true) (hK : kK D aC lw G s) (hR : kR D aC lw h H) (hS : va_S (fun q => lw ≤ q) s.heap H locs) (hroom : R.cells = MC ∧ R.slots = MS ∧ d + 6 ≤ R.frames ∧ 64 * d + 200 ≤ R.locals)
    {i ci N : Nat} (hf : kNew (kCn y) i = some ci) (hN : kSz ci = N) (hmc : 1 ≤ mc) (hms : N ≤ ms) (hc : cells + mc ≤ MC) (hs : slots + ms ≤ MS) (hdg : decode (kBytes y) pc = .ok (.new i, 3))
    (kk : ∀ (q : Nat) (H1 : Heap), h q = none → kR D aC lw (kset h q (kOb ci (kDef ci))) H1 → va_S (fun q => lw ≤ q) s.heap H1 locs → W p l e R s m args below meth c H1 locs (cells + 1) (slots + N) Q (F0 m (pc + 3) LS (.ref q :: st))) : W p l e R s m args below meth c H locs cells slots Q (F0 m pc LS st) := by
  obtain ⟨r, hcl, hin, w1, w2, w3, hsz, hdf⟩ := kNew_ok hf
  obtain ⟨hty, hnm⟩ := kCls_ok hcl
  have hKn := hK.1.1 ci _ hcl
  obtain ⟨r1, r2, r3, r4⟩ := hroom
  have hN' : r.2.2 = N := hsz.trans hN
  refine W.newcK hx hb hown (hts _ w1) (hts _ w2) (hts _ w3) rfl hdg (by omega) (by omega) hKn.2.1 rfl fun H1 kC hkC e1 z1 o1 => ?_
  have hat : va_at D classes (H.size, kcv aC (kOb ci (kDef ci))) H1 := ⟨_, hcl, (u_born (kFty ci) hts hin hKn hkC e1 hty).to hdf⟩
  obtain ⟨g1, g2⟩ := kR.new hR (Nat.le_trans hK.2.2.2.2.2.1 hS.1) hat o1
  rw [hN']
  exact kk H.size H1 g1 g2 (kNewS hS z1 o1)
theorem kNewAi {MC MS d mc ms : Nat} (hx : p.tables.exec = Jvm.exec) (hb : c.code = kBytes y) (hts : ∀ w ∈ kTbl, w.before args s = true) (hK : kK D aC lw G s) (hR : kR D aC lw h H) (hS : va_S (fun q => lw ≤ q) s.heap H locs) (hroom : R.cells = MC ∧ R.slots = MS ∧ d + 6 ≤ R.frames ∧ 64 * d + 200 ≤ R.locals)
    {n : Int32} {N : Nat} (hn : ¬ n < 0) (hN : n.toNatClampNeg = N) (hb9 : N ≤ 200000) (hmc : 1 ≤ mc) (hms : N ≤ ms) (hc : cells + mc ≤ MC) (hs : slots + ms ≤ MS) (hdg : decode (kBytes y) pc = .ok (.newarray .int, 2))
    (kk : ∀ (q : Nat) (H1 : Heap), h q = none → kR D aC lw (kset h q (kAI 0 N (fun _ => 0))) H1 → va_S (fun q => lw ≤ q) s.heap H1 locs → W p l e R s m args below meth c H1 locs (cells + 1) (slots + N) Q (F0 m (pc + 2) LS (.ref q :: st))) : W p l e R s m args below meth c H locs cells slots Q (F0 m pc LS (.int n :: st)) := by
  obtain ⟨r1, r2, r3, r4⟩ := hroom
  refine va_newaK (atype := .int) (N := N) hx hb (hts _ kArr_i) rfl hdg rfl hn hN (by show N * 4 ≤ _; omega) (by omega) (by omega) rfl fun H1 cA e1 z1 o1 hAr hNm => ?_
  have hA : s.vm.findClass ("[" ++ FieldType.int.toString) = some (aC 0) := (hK.1.2 0 _ (kTys_at (k := 0) rfl)).2
  have hcA : cA = aC 0 := Option.some.inj (hNm.symm.trans hA)
  subst hcA
  obtain ⟨g1, g2⟩ := kR.new hR (e := kAI 0 N (fun _ => 0)) (Nat.le_trans hK.2.2.2.2.2.1 hS.1) e1 o1
  exact kk H.size H1 g1 g2 (kNewS hS z1 o1)
theorem kNewAz {MC MS d mc ms : Nat} (hx : p.tables.exec = Jvm.exec) (hb : c.code = kBytes y) (hts : ∀ w ∈ kTbl, w.before args s = true) (hK : kK D aC lw G s) (hR : kR D aC lw h H) (hS : va_S (fun q => lw ≤ q) s.heap H locs) (hroom : R.cells = MC ∧ R.slots = MS ∧ d + 6 ≤ R.frames ∧ 64 * d + 200 ≤ R.locals)
    {n : Int32} {N : Nat} (hn : ¬ n < 0) (hN : n.toNatClampNeg = N) (hb9 : N ≤ 200000) (hmc : 1 ≤ mc) (hms : N ≤ ms) (hc : cells + mc ≤ MC) (hs : slots + ms ≤ MS) (hdg : decode (kBytes y) pc = .ok (.newarray .boolean, 2))
    (kk : ∀ (q : Nat) (H1 : Heap), h q = none → kR D aC lw (kset h q (kAI 1 N (fun _ => 0))) H1 → va_S (fun q => lw ≤ q) s.heap H1 locs → W p l e R s m args below meth c H1 locs (cells + 1) (slots + N) Q (F0 m (pc + 2) LS (.ref q :: st))) : W p l e R s m args below meth c H locs cells slots Q (F0 m pc LS (.int n :: st)) := by
  obtain ⟨r1, r2, r3, r4⟩ := hroom
  refine va_newaK (atype := .boolean) (N := N) hx hb (hts _ kArr_z) rfl hdg rfl hn hN (by show N * 1 ≤ _; omega) (by omega) (by omega) rfl fun H1 cA e1 z1 o1 hAr hNm => ?_
  have hA : s.vm.findClass ("[" ++ FieldType.boolean.toString) = some (aC 1) := (hK.1.2 1 _ (kTys_at (k := 1) rfl)).2
  have hcA : cA = aC 1 := Option.some.inj (hNm.symm.trans hA)
  subst hcA
  obtain ⟨g1, g2⟩ := kR.new hR (e := kAI 1 N (fun _ => 0)) (Nat.le_trans hK.2.2.2.2.2.1 hS.1) e1 o1
  exact kk H.size H1 g1 g2 (kNewS hS z1 o1)
theorem kNewAj {MC MS d mc ms : Nat} (hx : p.tables.exec = Jvm.exec) (hb : c.code = kBytes y) (hts : ∀ w ∈ kTbl, w.before args s = true) (hK : kK D aC lw G s) (hR : kR D aC lw h H) (hS : va_S (fun q => lw ≤ q) s.heap H locs) (hroom : R.cells = MC ∧ R.slots = MS ∧ d + 6 ≤ R.frames ∧ 64 * d + 200 ≤ R.locals)
    {n : Int32} {N : Nat} (hn : ¬ n < 0) (hN : n.toNatClampNeg = N) (hb9 : N ≤ 200000) (hmc : 1 ≤ mc) (hms : N ≤ ms) (hc : cells + mc ≤ MC) (hs : slots + ms ≤ MS) (hdg : decode (kBytes y) pc = .ok (.newarray .long, 2))
    (kk : ∀ (q : Nat) (H1 : Heap), h q = none → kR D aC lw (kset h q (kAJ 2 N (fun _ => 0))) H1 → va_S (fun q => lw ≤ q) s.heap H1 locs → W p l e R s m args below meth c H1 locs (cells + 1) (slots + N) Q (F0 m (pc + 2) LS (.ref q :: st))) : W p l e R s m args below meth c H locs cells slots Q (F0 m pc LS (.int n :: st)) := by
  obtain ⟨r1, r2, r3, r4⟩ := hroom
  refine va_newaK (atype := .long) (N := N) hx hb (hts _ kArr_j) rfl hdg rfl hn hN (by show N * 8 ≤ _; omega) (by omega) (by omega) rfl fun H1 cA e1 z1 o1 hAr hNm => ?_
  have hA : s.vm.findClass ("[" ++ FieldType.long.toString) = some (aC 2) := (hK.1.2 2 _ (kTys_at (k := 2) rfl)).2
  have hcA : cA = aC 2 := Option.some.inj (hNm.symm.trans hA)
  subst hcA
  obtain ⟨g1, g2⟩ := kR.new hR (e := kAJ 2 N (fun _ => 0)) (Nat.le_trans hK.2.2.2.2.2.1 hS.1) e1 o1
  exact kk H.size H1 g1 g2 (kNewS hS z1 o1)
theorem kNewQ {MC MS d mc ms : Nat} (hx : p.tables.exec = Jvm.exec) (hb : c.code = kBytes y) (hown : s.vm.findClass (kCls (kCn y)) = some m.cls) (hts : ∀ w ∈ kTbl, w.before args s = true) (hK : kK D aC lw G s) (hR : kR D aC lw h H) (hS : va_S (fun q => lw ≤ q) s.heap H locs) (hroom : R.cells = MC ∧ R.slots = MS ∧ d + 6 ≤ R.frames ∧ 64 * d + 200 ≤ R.locals)
    {i k : Nat} {n : Int32} {N : Nat} (hf : kANew (kCn y) i = some k) (hn : ¬ n < 0) (hN : n.toNatClampNeg = N) (hb9 : N ≤ 200000) (hmc : 1 ≤ mc) (hms : N ≤ ms) (hc : cells + mc ≤ MC) (hs : slots + ms ≤ MS) (hdg : decode (kBytes y) pc = .ok (.anewarray i, 3))
    (kk : ∀ (q : Nat) (H1 : Heap), h q = none → kR D aC lw (kset h q (kAR k N (fun _ => none))) H1 → va_S (fun q => lw ≤ q) s.heap H1 locs → W p l e R s m args below meth c H1 locs (cells + 1) (slots + N) Q (F0 m (pc + 3) LS (.ref q :: st))) : W p l e R s m args below meth c H locs cells slots Q (F0 m pc LS (.int n :: st)) := by
  obtain ⟨C, hC, w1, w2⟩ := kANew_ok hf
  obtain ⟨r1, r2, r3, r4⟩ := hroom
  subst hN
  refine W.anew hx hb hown (hts _ w1) (va_AO.use (hK.2.2.2.2.2.2.1 C w2)) rfl hdg rfl hn (by omega) (by omega) (by omega) fun cA kA comp f1 f2 f3 f4 => ?_
  obtain ⟨kA', comp', g1, g2, g3, g4⟩ := (hK.1.2 k _ (kTys_at hC)).2
  have hcA : cA = aC k := Option.some.inj (f1.symm.trans g4)
  subst hcA
  generalize hH1 : H.push ({ cls := aC k, slots := Array.replicate n.toNatClampNeg .null, vm := .none } : Cell) = H1
  have z1 : H1.size = H.size + 1 := by rw [← hH1, Array.size_push]
  have e1 : H1[H.size]? = some (arrV (aC k) n.toNatClampNeg (fun _ => .null)) := by rw [← hH1, Array.getElem?_push_size, ← arrV_new]
  have o1 : ∀ q : Nat, q < H.size → H1[q]? = H[q]? := fun q hq => by rw [← hH1, Array.getElem?_push, if_neg (Nat.ne_of_lt hq)]
  obtain ⟨h1, h2⟩ := kR.new hR (e := kAR k n.toNatClampNeg (fun _ => none)) (Nat.le_trans hK.2.2.2.2.2.1 hS.1) e1 o1
  exact kk H.size H1 h1 h2 (kNewS hS z1 o1)
theorem kObjI {MC MS d : Nat} {lo : kL} (hx : p.tables.exec = Jvm.exec) (hb : c.code = kBytes y) (hml : c.maxLocals = kMaxL y) (hown : s.vm.findClass (kCls (kCn y)) = some m.cls) (hts : ∀ w ∈ kTbl, w.before args s = true) (hL : kLo (kMaxL y) LS lo) (hroom : R.cells = MC ∧ R.slots = MS ∧ d + 6 ≤ R.frames ∧ 64 * d + 200 ≤ R.locals) {i a : Nat} (hm : kObj (kCn y) i = true) (hw : (st.map fun v => v.category).sum ≤ 8) (hdg : decode (kBytes y) pc = .ok (.invokespecial i, 3))
    (kk : W p l e R s m args below meth c H locs cells slots Q (F0 m (pc + 3) LS st)) : W p l e R s m args below meth c H locs cells slots Q (F0 m pc LS (.ref a :: st)) := by
  obtain ⟨r1, r2, r3, r4⟩ := hroom
  have h8 := lv_room (m := m) (pc := pc) (ls := LS) (rest := .ref a :: st) hw
  exact W.objInit hx hb hown (hts _ (kObj_ok hm)) (hts _ kO_in) (hts _ kO_cd) rfl (by rw [hml]; exact hL.1) rfl hdg (by omega) (by omega) kk
theorem kKmoved {U : State} (hK : kK D aC lw G s) (hS : va_S (fun q => lw ≤ q) s.heap H locs) (hU : U.heap = H) (hW : s.WarmedH U.vm) : kK D aC lw G U := by
  obtain ⟨h1, h2, h3, h4, h5, h6, h7, h8⟩ := hK
  have hH : ∀ a : Nat, a < s.heap.size → ¬ lw ≤ a → U.heap[a]? = s.heap[a]? := fun a g1 g2 => by rw [hU]; exact hS.2.1 a g1 g2
  refine ⟨va_K.moved hW.alike h1, fun w hw => kNst_warm hW hw (h2 w hw), va_X.moved hW.alike (va_X.kept h3 (hH _ h4 (Nat.not_le.mpr h5))), ?_, h5, ?_, fun C hC => va_AO.moved hW.alike (h7 C hC), kThrK.moved hW hH h8⟩
  · rw [hU]; exact Nat.lt_of_lt_of_le h4 hS.1
  · rw [hU]; exact Nat.le_trans h6 hS.1
theorem kBlind (As : List Value) : FrameBlind (va_Pc As (fun U => kK D aC lw G U ∧ kR D aC lw h U.heap)) := by
  intro a U g mk q
  obtain ⟨q0, ⟨h1, h2, h3, h4, h5, h6, h7, h8⟩, q2⟩ := q
  exact ⟨q0, ⟨va_K.moved (u := U) (U := U.calling g mk a) (Vm.Alike.refl U.vm) h1, fun w hw => kNst_same (u := U) hw rfl (h2 w hw), va_X.moved (u := U) (U := U.calling g mk a) (Vm.Alike.refl U.vm) h3, h4, h5, h6, fun C hC => va_AO.moved (u := U) (U := U.calling g mk a) (Vm.Alike.refl U.vm) (h7 C hC), kThrK.same (U := U.calling g mk a) rfl rfl h8⟩, q2⟩
theorem kAfter {P1 : kO → kH → Prop} {mc1 ms1 : Nat} {a : Array Value} {st0 : List Value} (hr : vx_Run p l e R s m args below meth c H locs cells slots mc1 ms1 (F0 m pc LS st0) st (kQ D aC lw P1 a) (kXC D aC lw P1) (fun q => lw ≤ q)) (hno : ∀ E h1, ¬ P1 (.inr E) h1) (hS : va_S (fun q => lw ≤ q) s.heap H locs)
    (kk : ∀ (v : Option Value) (h1 : kH), P1 (.inl v) h1 → ∀ (H1 : Heap) (locs1 : List Loc), kR D aC lw h1 H1 → va_S (fun q => lw ≤ q) s.heap H1 locs1 → W p l e R s m args below meth c H1 locs1 (cells + mc1) (slots + ms1) Q (F0 m (pc + 3) LS (v.toList ++ st))) : W p l e R s m args below meth c H locs cells slots Q (F0 m pc LS st0) := by
  intro T hT X
  rcases hr T hT X with ⟨v, st₀, t, T', L, h0, X', hL, e1, e2, ⟨⟨v', h1, hv, hp, hR1⟩, hF⟩, stp⟩ | ⟨q, st₀, t, T', L, E, ce, h0, X', hL, e1, e2, ⟨i, h1, -, hp, -⟩, -⟩
  · cases hv
    obtain ⟨k1, k2, k3⟩ := vx_keep h0 e1 hS (fun q _ h => h) (fun q h => h) hL hF
    obtain ⟨t2, a1, b1⟩ := kk v h1 hp T'.heap (locs ++ L) (by rw [e1]; exact hR1) k3 T' rfl X'
    exact ⟨t2, stp t2 a1, b1⟩
  · exact absurd hp (hno i h1)
theorem kAfterV {P1 : kO → kH → Prop} {mc1 ms1 : Nat} {a : Array Value} {st0 : List Value} (hr : va_Run p l e R s m args below meth c H locs cells slots mc1 ms1 (F0 m pc LS st0) st (kQ D aC lw P1 a) (fun q => lw ≤ q)) (hS : va_S (fun q => lw ≤ q) s.heap H locs)
    (kk : ∀ (v : Option Value) (h1 : kH), P1 (.inl v) h1 → ∀ (H1 : Heap) (locs1 : List Loc), kR D aC lw h1 H1 → va_S (fun q => lw ≤ q) s.heap H1 locs1 → W p l e R s m args below meth c H1 locs1 (cells + mc1) (slots + ms1) Q (F0 m (pc + 3) LS (v.toList ++ st))) : W p l e R s m args below meth c H locs cells slots Q (F0 m pc LS st0) := by
  intro T hT X
  obtain ⟨v, st₀, t, T', L, h0, X', hL, e1, e2, ⟨⟨v', h1, hv, hp, hR1⟩, hF⟩, stp⟩ := hr T hT X
  cases hv
  obtain ⟨k1, k2, k3⟩ := vx_keep h0 e1 hS (fun q _ h => h) (fun q h => h) hL hF
  obtain ⟨t2, a1, b1⟩ := kk v h1 hp T'.heap (locs ++ L) (by rw [e1]; exact hR1) k3 T' rfl X'
  exact ⟨t2, stp t2 a1, b1⟩
section KCALL
variable {C : kCl} {d MC MS mc ms : Nat} {lo : kL} {i y1 mc1 ms1 mc2 ms2 : Nat} {As st0 : List Value} {P1 : kO → kH → Prop}
theorem kCallS (IH : ∀ (y1 : Nat) (As : List Value) (h : kH) (mc ms : Nat) (P : kO → kH → Prop), kChM y1 = true → (plainName (kNm y1).cls = true ∨ ∀ E h1, ¬ P (.inr E) h1) → C y1 As h mc ms P → kMet D aC lw G l d y1 As h mc ms P) (hx : p.tables.exec = Jvm.exec) (hb : c.code = kBytes y) (hml : c.maxLocals = kMaxL y) (hown : s.vm.findClass (kCls (kCn y)) = some m.cls) (hts : ∀ w ∈ kTbl, w.before args s = true) (hK : kK D aC lw G s) (hR : kR D aC lw h H) (hS : va_S (fun q => lw ≤ q) s.heap H locs) (hL : kLo (kMaxL y) LS lo) (hroom : R.cells = MC ∧ R.slots = MS ∧ (d + 1) + 6 ≤ R.frames ∧ 64 * (d + 1) + 200 ≤ R.locals)
    (hm : kMth (kCn y) i = some y1) (hk : kKin y1 = 0) (hn : As.length = kArg y1) (hst : st0 = As.reverse ++ st) (hw : (st.map fun v => v.category).sum ≤ 8) (hC : C y1 As h mc1 ms1 P1) (hno : ∀ E h1, ¬ P1 (.inr E) h1) (hm1 : mc1 + mc2 ≤ mc) (hm2 : ms1 + ms2 ≤ ms) (hc : cells + mc ≤ MC) (hs : slots + ms ≤ MS) (hdg : decode (kBytes y) pc = .ok (.invokestatic i, 3))
    (kk : ∀ (v : Option Value) (h1 : kH), P1 (.inl v) h1 → ∀ (H1 : Heap) (locs1 : List Loc), kR D aC lw h1 H1 → va_S (fun q => lw ≤ q) s.heap H1 locs1 → W p l e R s m args below meth c H1 locs1 (cells + mc1) (slots + ms1) Q (F0 m (pc + 3) LS (v.toList ++ st))) : W p l e R s m args below meth c H locs cells slots Q (F0 m pc LS st0) := by
  obtain ⟨hlk, hM⟩ := kMth_ok hm
  obtain ⟨w1, w2, hd, hpl, hml40, hcl, hK0, -, -, -, -⟩ := kM_ok hM
  obtain ⟨r1, r2, r3, r4⟩ := hroom
  have hMet := kToMet (IH y1 As h mc1 ms1 P1 hM (Or.inr hno) hC) (fun E st t hx => by obtain ⟨i9, h9, -, hp9, -⟩ := hx; exact hno _ _ hp9)
  have hp : PreS s H (va_Pc As (fun U => kK D aC lw G U ∧ kR D aC lw h U.heap)) As := ⟨kBlind As, fun U hU hW => ⟨rfl, kKmoved hK hS hU hW, by rw [hU]; exact hR⟩⟩
  have hRm : (kRm d mc1 ms1).frames + 1 ≤ R.frames ∧ 8 + (kMaxL y1 + 11) + (kRm d mc1 ms1).locals ≤ R.locals := ⟨by show d + 6 + 1 ≤ _; omega, by show 8 + (kMaxL y1 + 11) + (64 * d + 200) ≤ _; omega⟩
  have hf : cells + mc1 ≤ R.cells ∧ slots + ms1 ≤ R.slots := ⟨by omega, by omega⟩
  by_cases hh : kHh y1 = []
  · rcases hlk with ⟨hln, hnh⟩ | hll
    · exact kAfterV (va_runSN (maxL := kMaxL y1) (ret := kRet y1) ⟨hx, hb, hml, hown, hts⟩ hMet ⟨va_cnB (kArg y1) hts (kGood y1 w1) (kWs_code hh) rfl rfl (hK.2.1 _ hln) (hts _ w2) hd hRm, hts _ (hK0 hk), trivial⟩ hp rfl hn hL.1 hst (lv_room hw) hdg hf) hS kk
    · exact kAfterV (va_runS (maxL := kMaxL y1) (ret := kRet y1) ⟨hx, hb, hml, hown, hts⟩ hMet ⟨callB_of (kArg y1) hts (kGood y1 w1) (kWs_code hh) rfl rfl (hts _ w2) (hts _ hll) hd hRm, hts _ (hK0 hk)⟩ hp rfl hn hL.1 hst (lv_room hw) hdg hf) hS kk
  · rcases hlk with ⟨hln, hnh⟩ | hll
    · exact absurd hnh hh
    · have hcw : Cond.codeWith (kNm y1) (kBytes y1) (kMaxL y1) (kRet y1) (kHh y1) ∈ kWs y1 := by rw [kWs_with hh]; exact List.mem_cons_self
      have hcw2 : Cond.codeWith (kNm y1) (kBytes y1) (kMaxL y1) (kRet y1) (kHh y1) ∈ kTbl := by
        unfold kCdW at w1
        rw [if_neg hh] at w1
        exact w1
      exact kAfterV (vx_runSW ⟨hx, hb, hml, hown, hts⟩ hMet ⟨⟨rfl, rfl, hRm.1, hRm.2, pay_in hts (kGood y1 w1), hcw⟩, hts _ hcw2, hts _ w2, ⟨hd.1, hd.2.1⟩, fun sig hsig => by have h2 := hd.2.2; rw [hsig] at h2; exact (Option.some.inj h2).symm, hts _ hll, hts _ (hK0 hk)⟩ hp rfl hn hL.1 hst (lv_room hw) hdg hf) hS kk
theorem kCallV {a ci : Nat} {fs : List Value} (IH : ∀ (y1 : Nat) (As : List Value) (h : kH) (mc ms : Nat) (P : kO → kH → Prop), kChM y1 = true → (plainName (kNm y1).cls = true ∨ ∀ E h1, ¬ P (.inr E) h1) → C y1 As h mc ms P → kMet D aC lw G l d y1 As h mc ms P) (hx : p.tables.exec = Jvm.exec) (hb : c.code = kBytes y) (hml : c.maxLocals = kMaxL y) (hown : s.vm.findClass (kCls (kCn y)) = some m.cls) (hts : ∀ w ∈ kTbl, w.before args s = true) (hK : kK D aC lw G s) (hR : kR D aC lw h H) (hS : va_S (fun q => lw ≤ q) s.heap H locs) (hL : kLo (kMaxL y) LS lo) (hroom : R.cells = MC ∧ R.slots = MS ∧ (d + 1) + 6 ≤ R.frames ∧ 64 * (d + 1) + 200 ≤ R.locals)
    (hm : kMth (kCn y) i = some y1) (hk : kKin y1 = 1) (hn : As.length = kArg y1 + 1) (hst : st0 = As.reverse ++ st) (hAs : As[0]? = some (.ref a)) (ha : h a = some (kOb ci fs)) (hci : kRcv y1 = some ci) (hw : (st.map fun v => v.category).sum ≤ 8) (hC : C y1 As h mc1 ms1 P1) (hno : ∀ E h1, ¬ P1 (.inr E) h1) (hm1 : mc1 + mc2 ≤ mc) (hm2 : ms1 + ms2 ≤ ms) (hc : cells + mc ≤ MC) (hs : slots + ms ≤ MS) (hdg : decode (kBytes y) pc = .ok (.invokevirtual i, 3))
    (kk : ∀ (v : Option Value) (h1 : kH), P1 (.inl v) h1 → ∀ (H1 : Heap) (locs1 : List Loc), kR D aC lw h1 H1 → va_S (fun q => lw ≤ q) s.heap H1 locs1 → W p l e R s m args below meth c H1 locs1 (cells + mc1) (slots + ms1) Q (F0 m (pc + 3) LS (v.toList ++ st))) : W p l e R s m args below meth c H locs cells slots Q (F0 m pc LS st0) := by
  obtain ⟨hlk, hM⟩ := kMth_ok hm
  obtain ⟨w1, w2, hd, hpl, hml40, hcl, -, hK1, -, hH0, -⟩ := kM_ok hM
  obtain ⟨r1, r2, r3, r4⟩ := hroom
  obtain ⟨x1, x2, ci', r, hci', hcr, hr1⟩ := hK1 hk
  cases hci.symm.trans hci'
  cases As with
  | nil => cases hAs
  | cons v0 As =>
  cases hAs
  have hMet := kToMet (IH y1 _ h mc1 ms1 P1 hM (Or.inr hno) hC) (fun E st t hx => by obtain ⟨i9, h9, -, hp9, -⟩ := hx; exact hno _ _ hp9)
  have hrec : ∃ cell : Cell, H[a]? = some cell ∧ cell.vm.isStatics = false ∧ s.vm.findClass (kNm y1).cls = some cell.cls := by
    rw [← hr1]
    exact va_recv hK.1 (kR.one hR ha) (ci := ci) (q0 := 0) hcr rfl
  have hp : PreV s H (kNm y1).cls a (va_Pc (.ref a :: As) (fun U => kK D aC lw G U ∧ kR D aC lw h U.heap)) As := ⟨kBlind _, hrec, fun U hU hW => ⟨rfl, kKmoved hK hS hU hW, by rw [hU]; exact hR⟩⟩
  have hRm : (kRm d mc1 ms1).frames + 1 ≤ R.frames ∧ 8 + (kMaxL y1 + 11) + (kRm d mc1 ms1).locals ≤ R.locals := ⟨by show d + 6 + 1 ≤ _; omega, by show 8 + (kMaxL y1 + 11) + (64 * d + 200) ≤ _; omega⟩
  have hf : cells + mc1 ≤ R.cells ∧ slots + ms1 ≤ R.slots := ⟨by omega, by omega⟩
  have hst' : st0 = As.reverse ++ .ref a :: st := by rw [hst]; simp
  have hn' : As.length = kArg y1 := by simpa using hn
  have hh : kHh y1 = [] := hH0.resolve_left (by omega)
  rcases hlk with ⟨hln, hnh⟩ | hll
  · exact kAfterV (va_runVN (C := (kNm y1).cls) (maxL := kMaxL y1) (ret := kRet y1) ⟨hx, hb, hml, hown, hts⟩ hMet ⟨va_cnB (kArg y1) hts (kGood y1 w1) (kWs_code hh) rfl rfl (hK.2.1 _ hln) (hts _ w2) hd hRm, hts _ x1, hts _ x2⟩ hp rfl hn' hL.1 hst' (lv_room hw) hdg hf) hS kk
  · exact kAfterV (va_runV (C := (kNm y1).cls) (maxL := kMaxL y1) (ret := kRet y1) ⟨hx, hb, hml, hown, hts⟩ hMet ⟨callB_of (kArg y1) hts (kGood y1 w1) (kWs_code hh) rfl rfl (hts _ w2) (hts _ hll) hd hRm, hts _ x1, hts _ x2⟩ hp rfl hn' hL.1 hst' (lv_room hw) hdg hf) hS kk
theorem kCallI (IH : ∀ (y1 : Nat) (As : List Value) (h : kH) (mc ms : Nat) (P : kO → kH → Prop), kChM y1 = true → (plainName (kNm y1).cls = true ∨ ∀ E h1, ¬ P (.inr E) h1) → C y1 As h mc ms P → kMet D aC lw G l d y1 As h mc ms P) (hx : p.tables.exec = Jvm.exec) (hb : c.code = kBytes y) (hml : c.maxLocals = kMaxL y) (hown : s.vm.findClass (kCls (kCn y)) = some m.cls) (hts : ∀ w ∈ kTbl, w.before args s = true) (hK : kK D aC lw G s) (hR : kR D aC lw h H) (hS : va_S (fun q => lw ≤ q) s.heap H locs) (hL : kLo (kMaxL y) LS lo) (hroom : R.cells = MC ∧ R.slots = MS ∧ (d + 1) + 6 ≤ R.frames ∧ 64 * (d + 1) + 200 ≤ R.locals)
    {a : Nat} (hm : kMth (kCn y) i = some y1) (hk : kKin y1 = 2) (hn : As.length = kArg y1 + 1) (hst : st0 = As.reverse ++ st) (hAs : As[0]? = some (.ref a)) (hw : (st.map fun v => v.category).sum ≤ 8) (hC : C y1 As h mc1 ms1 P1) (hno : ∀ E h1, ¬ P1 (.inr E) h1) (hm1 : mc1 + mc2 ≤ mc) (hm2 : ms1 + ms2 ≤ ms) (hc : cells + mc ≤ MC) (hs : slots + ms ≤ MS) (hdg : decode (kBytes y) pc = .ok (.invokespecial i, 3))
    (kk : ∀ (v : Option Value) (h1 : kH), P1 (.inl v) h1 → ∀ (H1 : Heap) (locs1 : List Loc), kR D aC lw h1 H1 → va_S (fun q => lw ≤ q) s.heap H1 locs1 → W p l e R s m args below meth c H1 locs1 (cells + mc1) (slots + ms1) Q (F0 m (pc + 3) LS (v.toList ++ st))) : W p l e R s m args below meth c H locs cells slots Q (F0 m pc LS st0) := by
  obtain ⟨hlk, hM⟩ := kMth_ok hm
  obtain ⟨w1, w2, hd, hpl, hml40, hcl, -, -, hK2, hH0, hH2⟩ := kM_ok hM
  obtain ⟨r1, r2, r3, r4⟩ := hroom
  obtain ⟨x1, x2⟩ := hK2 hk
  cases As with
  | nil => cases hAs
  | cons v0 As =>
  cases hAs
  have hMet := kToMet (IH y1 _ h mc1 ms1 P1 hM (Or.inr hno) hC) (fun E st t hx => by obtain ⟨i9, h9, -, hp9, -⟩ := hx; exact hno _ _ hp9)
  have hp : PreS s H (va_Pc (.ref a :: As) (fun U => kK D aC lw G U ∧ kR D aC lw h U.heap)) (.ref a :: As) := ⟨kBlind _, fun U hU hW => ⟨rfl, kKmoved hK hS hU hW, by rw [hU]; exact hR⟩⟩
  have hRm : (kRm d mc1 ms1).frames + 1 ≤ R.frames ∧ 8 + (kMaxL y1 + 11) + (kRm d mc1 ms1).locals ≤ R.locals := ⟨by show d + 6 + 1 ≤ _; omega, by show 8 + (kMaxL y1 + 11) + (64 * d + 200) ≤ _; omega⟩
  have hf : cells + mc1 ≤ R.cells ∧ slots + ms1 ≤ R.slots := ⟨by omega, by omega⟩
  have hst' : st0 = As.reverse ++ .ref a :: st := by rw [hst]; simp
  have hn' : As.length = kArg y1 := by simpa using hn
  have hh : kHh y1 = [] := hH0.resolve_left (by omega)
  have hrt := hH2 hk
  have hww : kWs y1 = Cond.code (kNm y1) (kBytes y1) (kMaxL y1) none :: kTbl := by rw [kWs_code hh, hrt]
  rcases hlk with ⟨hln, hnh⟩ | hll
  · exact kAfterV (va_runIN (maxL := kMaxL y1) ⟨hx, hb, hml, hown, hts⟩ hMet ⟨va_cnB (kArg y1) hts (kGood y1 w1) hww rfl rfl (hK.2.1 _ hln) (hts _ w2) hd hRm, x2, hts _ x1⟩ hp rfl hn' hL.1 hst' (lv_room hw) hdg hf) hS kk
  · exact kAfterV (va_runI (maxL := kMaxL y1) ⟨hx, hb, hml, hown, hts⟩ hMet ⟨callB_of (kArg y1) hts (kGood y1 w1) hww rfl rfl (hts _ w2) (hts _ hll) hd hRm, x2, hts _ x1⟩ hp rfl hn' hL.1 hst' (lv_room hw) hdg hf) hS kk
theorem kAfterX {a : Array Value} (hr : vx_Run p l e R s m args below meth c H locs cells slots mc1 ms1 (F0 m pc LS st0) st (kQ D aC lw P1 a) (kXC D aC lw P1) (fun q => lw ≤ q)) (hS : va_S (fun q => lw ≤ q) s.heap H locs)
    (kk : ∀ (v : Option Value) (h1 : kH), P1 (.inl v) h1 → ∀ (H1 : Heap) (locs1 : List Loc), kR D aC lw h1 H1 → va_S (fun q => lw ≤ q) s.heap H1 locs1 → W p l e R s m args below meth c H1 locs1 (cells + mc1) (slots + ms1) Q (F0 m (pc + 3) LS (v.toList ++ st)))
    (kx : ∀ (E q : Nat) (ce : Cell) (h1 : kH), P1 (.inr E) h1 → ∀ (H1 : Heap) (locs1 : List Loc), kR D aC lw h1 H1 → va_S (fun q => lw ≤ q) s.heap H1 locs1 → H1[q]? = some ce → ce.vm = .none → s.vm.findClass (kExn E) = some ce.cls → vx_W p l e R s m args below meth c H1 locs1 (cells + mc1) (slots + ms1) Q (F0 m pc LS st) q) : W p l e R s m args below meth c H locs cells slots Q (F0 m pc LS st0) := by
  intro T hT X
  rcases hr T hT X with ⟨v, st₀, t, T', L, h0, X', hL, e1, e2, ⟨⟨v', h1, hv, hp, hR1⟩, hF⟩, stp⟩ | ⟨q, st₀, t, T', L, E, ce, h0, X', hL, e1, e2, ⟨i, h1, hE, hp, hR1, hF⟩, hce, hcv, hcl, stp⟩
  · cases hv
    obtain ⟨k1, k2, k3⟩ := vx_keep h0 e1 hS (fun q _ h => h) (fun q h => h) hL hF
    obtain ⟨t2, a1, b1⟩ := kk v h1 hp T'.heap (locs ++ L) (by rw [e1]; exact hR1) k3 T' rfl X'
    exact ⟨t2, stp t2 a1, b1⟩
  · subst hE
    obtain ⟨k1, k2, k3⟩ := vx_keep h0 e1 hS (fun q _ h => h) (fun q h => h) hL hF
    obtain ⟨t2, a1, b1⟩ := kx i q ce h1 hp T'.heap (locs ++ L) (by rw [e1]; exact hR1) k3 (by rw [e1]; exact hce) hcv hcl T' rfl X'
    exact ⟨t2, stp.trans a1, b1⟩
theorem kCatch {E q hp : Nat} {ce : Cell} (hown : s.vm.findClass (kCls (kCn y)) = some m.cls) (hts : ∀ w ∈ kTbl, w.before args s = true) (hK : kK D aC lw G s) (hexh : kHh y = [] ∨ c.exceptionTable.toList = tableOf (kHh y)) (hh : kHan y pc E = some hp) (hce : H[q]? = some ce) (hcv : ce.vm = .none) (hcl : s.vm.findClass (kExn E) = some ce.cls)
    (kk : W p l e R s m args below meth c H locs cells slots Q (F0 m hp LS [.ref q])) : vx_W p l e R s m args below meth c H locs cells slots Q (F0 m pc LS st) q := by
  obtain ⟨k, hch⟩ := kHan_ok hh
  unfold kChH at hch
  dsimp only at hch
  rw [Bool.and_eq_true] at hch
  obtain ⟨t1, t2⟩ := hch
  have t1 := of_decide_eq_true t1
  rw [t1] at hown
  have hnst : ∀ w ∈ kNst, w.before args s = true := fun w hw => va_Nw.use (kNst_onT w hw) (hK.2.1 w hw)
  split at t2
  · split at t2
    · rename_i e0 rest he
      rw [Bool.and_eq_true] at t2
      obtain ⟨u1, u2, u3⟩ := of_decide_eq_true t2.1
      have htab : c.exceptionTable.toList = tableOf (e0 :: rest) := by
        rcases hexh with h9 | h9
        · rw [h9] at he; cases he
        · rw [h9, he]
      obtain ⟨a0, b0, c0, d0⟩ := e0
      dsimp only at u1 u2 u3
      subst u3
      rcases of_decide_eq_true t2.2 with ⟨v1, v2⟩ | ⟨v1, v2⟩
      · dsimp only at v2
        subst v1; subst v2
        exact vx_catch hown [] _ (tableOf rest) htab (fun z hz => nomatch hz) (by simp [covers, u1, u2]) (by simp) (hts _ kT_c0) (hnst _ kT_s0) hce hcv hcl kk
      · dsimp only at v2
        subst v1; subst v2
        exact vx_catch hown [] _ (tableOf rest) htab (fun z hz => nomatch hz) (by simp [covers, u1, u2]) (by simp) (hts _ kT_c1) (hnst _ kT_s1) hce hcv hcl kk
    · cases t2
  · split at t2
    · rename_i e0 e1 rest he
      simp only [Bool.and_eq_true] at t2
      obtain ⟨⟨s1, s2⟩, s3⟩ := t2
      have s1 := of_decide_eq_true s1
      obtain ⟨u1, u2, u3⟩ := of_decide_eq_true s2
      obtain ⟨v1, v2⟩ := of_decide_eq_true s3
      have htab : c.exceptionTable.toList = tableOf (e0 :: e1 :: rest) := by
        rcases hexh with h9 | h9
        · rw [h9] at he; cases he
        · rw [h9, he]
      obtain ⟨a0, b0, c0, d0⟩ := e0
      obtain ⟨a1, b1, c1, d1⟩ := e1
      dsimp only at s1 u1 u2 u3 v2
      subst u3; subst v1; subst v2; subst s1
      exact vx_catch hown (tableOf [(a0, b0, c0, 13)]) _ (tableOf rest) htab (fun z hz => Or.inr (by
          have hz' : z ∈ tableOf [(a0, b0, c0, 13)] := hz
          simp [tableOf] at hz'
          subst hz'
          exact ⟨by simp, _, hts _ kT_c0, hK.2.2.2.2.2.2.2.2.2.2⟩)) (by simp [covers, u1, u2]) (by simp) (hts _ kT_c1) (hnst _ kT_s1) hce hcv hcl kk
    · cases t2
theorem kCallX {a ci : Nat} {fs : List Value} (IH : ∀ (y1 : Nat) (As : List Value) (h : kH) (mc ms : Nat) (P : kO → kH → Prop), kChM y1 = true → (plainName (kNm y1).cls = true ∨ ∀ E h1, ¬ P (.inr E) h1) → C y1 As h mc ms P → kMet D aC lw G l d y1 As h mc ms P) (hx : p.tables.exec = Jvm.exec) (hb : c.code = kBytes y) (hml : c.maxLocals = kMaxL y) (hown : s.vm.findClass (kCls (kCn y)) = some m.cls) (hts : ∀ w ∈ kTbl, w.before args s = true) (hK : kK D aC lw G s) (hexh : kHh y = [] ∨ c.exceptionTable.toList = tableOf (kHh y)) (hR : kR D aC lw h H) (hS : va_S (fun q => lw ≤ q) s.heap H locs) (hL : kLo (kMaxL y) LS lo) (hroom : R.cells = MC ∧ R.slots = MS ∧ (d + 1) + 6 ≤ R.frames ∧ 64 * (d + 1) + 200 ≤ R.locals)
    (hm : kMth (kCn y) i = some y1) (hk : kKin y1 = 1) (hn : As.length = kArg y1 + 1) (hst : st0 = As.reverse ++ st) (hAs : As[0]? = some (.ref a)) (ha : h a = some (kOb ci fs)) (hci : kRcv y1 = some ci) (hpl : kCls (kCn y1) = "RelationDesk") (hlw : kCls (kCn y) = "RelationDeskLaw") (hdl : ∀ E h1, P1 (.inr E) h1 → ∃ hp, kHan y pc E = some hp) (hw : (st.map fun v => v.category).sum ≤ 8) (hC : C y1 As h mc1 ms1 P1) (hm1 : mc1 + mc2 ≤ mc) (hm2 : ms1 + ms2 ≤ ms) (hc : cells + mc ≤ MC) (hs : slots + ms ≤ MS) (hdg : decode (kBytes y) pc = .ok (.invokevirtual i, 3))
    (kk : ∀ (v : Option Value) (h1 : kH), P1 (.inl v) h1 → ∀ (H1 : Heap) (locs1 : List Loc), kR D aC lw h1 H1 → va_S (fun q => lw ≤ q) s.heap H1 locs1 → W p l e R s m args below meth c H1 locs1 (cells + mc1) (slots + ms1) Q (F0 m (pc + 3) LS (v.toList ++ st)))
    (kx : ∀ (E q hp : Nat) (h1 : kH), P1 (.inr E) h1 → kHan y pc E = some hp → ∀ (H1 : Heap) (locs1 : List Loc), kR D aC lw h1 H1 → va_S (fun q => lw ≤ q) s.heap H1 locs1 → W p l e R s m args below meth c H1 locs1 (cells + mc1) (slots + ms1) Q (F0 m hp LS [.ref q])) : W p l e R s m args below meth c H locs cells slots Q (F0 m pc LS st0) := by
  obtain ⟨hlk, hM⟩ := kMth_ok hm
  obtain ⟨w1, w2, hd, -, hml40, hcl, -, hK1, -, hH0, -⟩ := kM_ok hM
  obtain ⟨r1, r2, r3, r4⟩ := hroom
  obtain ⟨x1, x2, ci', r, hci', hcr, hr1⟩ := hK1 hk
  cases hci.symm.trans hci'
  cases As with
  | nil => cases hAs
  | cons v0 As =>
  cases hAs
  have hpn : plainName (kNm y1).cls = true := by rw [← hcl, hpl]; decide +kernel
  have hMet := IH y1 _ h mc1 ms1 P1 hM (Or.inl hpn) hC
  have hrec : ∃ cell : Cell, H[a]? = some cell ∧ cell.vm.isStatics = false ∧ s.vm.findClass (kNm y1).cls = some cell.cls := by
    rw [← hr1]
    exact va_recv hK.1 (kR.one hR ha) (ci := ci) (q0 := 0) hcr rfl
  have hp : PreV s H (kNm y1).cls a (va_Pc (.ref a :: As) (fun U => kK D aC lw G U ∧ kR D aC lw h U.heap)) As := ⟨kBlind _, hrec, fun U hU hW => ⟨rfl, kKmoved hK hS hU hW, by rw [hU]; exact hR⟩⟩
  have hRm : (kRm d mc1 ms1).frames + 1 ≤ R.frames ∧ 8 + (kMaxL y1 + 11) + (kRm d mc1 ms1).locals ≤ R.locals := ⟨by show d + 6 + 1 ≤ _; omega, by show 8 + (kMaxL y1 + 11) + (64 * d + 200) ≤ _; omega⟩
  have hf : cells + mc1 ≤ R.cells ∧ slots + ms1 ≤ R.slots := ⟨by omega, by omega⟩
  have hst' : st0 = As.reverse ++ .ref a :: st := by rw [hst]; simp
  have hn' : As.length = kArg y1 := by simpa using hn
  have hh : kHh y1 = [] := hH0.resolve_left (by omega)
  rcases hlk with ⟨hln, hnh⟩ | hll
  · rw [hlw] at hln
    exact absurd hln (kNst_law _ _)
  · exact kAfterX (vx_runV (C := (kNm y1).cls) (maxL := kMaxL y1) (ret := kRet y1) ⟨hx, hb, hml, hown, hts⟩ hMet ⟨callB_of (kArg y1) hts (kGood y1 w1) (kWs_code hh) rfl rfl (hts _ w2) (hts _ hll) hd hRm, hts _ x1, hts _ x2⟩ hp rfl hn' hL.1 hst' (lv_room hw) hdg hf) hS kk
      (fun E q ce h1 hP1 H1 locs1 hR1 hS1 hce hcv hcl9 => by
        obtain ⟨hp9, hh9⟩ := hdl E h1 hP1
        exact kCatch hown hts hK hexh hh9 hce hcv hcl9 (kx E q hp9 h1 hP1 hh9 H1 locs1 hR1 hS1))
end KCALL
end KS
/-- what is owed at a method's ends -/
def kEnds (D : va_G) (aC : Nat → ClassId) (lw : Nat) (p : Program) (l : Launch) (e : Env) (R : Room) (s : State) (m : MethodId) (args : Array Value) (below : List Frame) (meth : Method) (c : Code) (Q : State → Prop) (y : Nat) (P : kO → kH → Prop) (MC MS : Nat) : Prop :=
  (∀ (pc : Nat) (x : Int32) (ty : FieldType) (h : kH) (H : Heap) (locs : List Loc) (cells slots : Nat) (LS : Array Slot), decode (kBytes y) pc = .ok (.ireturn, 1) → kRet y = some ty → narrow ty (.int x) = .int x → P (.inl (some (.int x))) h → kR D aC lw h H → va_S (fun q => lw ≤ q) s.heap H locs → cells ≤ MC → slots ≤ MS → W p l e R s m args below meth c H locs cells slots Q (F0 m pc LS [.int x])) ∧
  (∀ (pc : Nat) (v : Value) (h : kH) (H : Heap) (locs : List Loc) (cells slots : Nat) (LS : Array Slot), decode (kBytes y) pc = .ok (.areturn, 1) → kRrf y = true → v.isRef = true → P (.inl (some v)) h → kR D aC lw h H → va_S (fun q => lw ≤ q) s.heap H locs → cells ≤ MC → slots ≤ MS → W p l e R s m args below meth c H locs cells slots Q (F0 m pc LS [v])) ∧
  (∀ (pc : Nat) (h : kH) (H : Heap) (locs : List Loc) (cells slots : Nat) (LS : Array Slot), decode (kBytes y) pc = .ok (.return_, 1) → kRet y = none → P (.inl none) h → kR D aC lw h H → va_S (fun q => lw ≤ q) s.heap H locs → cells ≤ MC → slots ≤ MS → W p l e R s m args below meth c H locs cells slots Q (F0 m pc LS [])) ∧
  (∀ (pc E : Nat) (st : List Value) (h : kH) (lo : kL) (H : Heap) (locs : List Loc) (cells slots : Nat) (LS : Array Slot), kThr y pc = some E → (st.map fun v => v.category).sum ≤ 8 → P (.inr E) h → kR D aC lw h H → va_S (fun q => lw ≤ q) s.heap H locs → kLo (kMaxL y) LS lo → cells + 1 ≤ MC → slots + 6 ≤ MS → W p l e R s m args below meth c H locs cells slots Q (F0 m pc LS st))
def kZ (D : va_G) (aC : Nat → ClassId) (lw : Nat) (G : kG) (p : Program) (l : Launch) (e : Env) (R : Room) (s : State) (m : MethodId) (args : Array Value) (below : List Frame) (meth : Method) (c : Code) (Q : State → Prop) (y : Nat) (C : kCl) (P : kO → kH → Prop) (d MC MS : Nat) : Prop :=
  p.tables.exec = Jvm.exec ∧ c.code = kBytes y ∧ c.maxLocals = kMaxL y ∧ s.vm.findClass (kCls (kCn y)) = some m.cls ∧ (∀ w ∈ kTbl, w.before args s = true) ∧ kK D aC lw G s ∧ (kIni y = true → meth.name = "<init>") ∧ (R.cells = MC ∧ R.slots = MS ∧ (d + 1) + 6 ≤ R.frames ∧ 64 * (d + 1) + 200 ≤ R.locals) ∧ (kHh y = [] ∨ c.exceptionTable.toList = tableOf (kHh y)) ∧
  (∀ (y1 : Nat) (As : List Value) (h : kH) (mc ms : Nat) (P : kO → kH → Prop), kChM y1 = true → (plainName (kNm y1).cls = true ∨ ∀ E h1, ¬ P (.inr E) h1) → C y1 As h mc ms P → kMet D aC lw G l d y1 As h mc ms P) ∧ kEnds D aC lw p l e R s m args below meth c Q y P MC MS
set_option maxHeartbeats 1000000 in
theorem ks_iconst {D : va_G} {aC : Nat → ClassId} {lw : Nat} {G : kG} {p : Program} {l : Launch} {e : Env} {R : Room} {s : State} {m : MethodId} {args : Array Value} {below : List Frame} {meth : Method} {c : Code} {Q : State → Prop} {y : Nat} {C : kCl} {P : kO → kH → Prop} {d MC MS : Nat} (Z : kZ D aC lw G p l e R s m args below meth c Q y C P d MC MS) : kc_iconst G y C P (kOK aC D lw y p l e R s m args below meth c Q MC MS) := by
  obtain ⟨hx, hb, hml, hown, hts, hK, hini, hroom, hexh, IH, hend⟩ := Z
  intro pc lo st h mc ms n v hd hv k1 H locs cells slots LS hR hS hL hc hs
  exact lv_iconst hx hb (kDec hd) hv (k1 H locs cells slots LS hR hS hL hc hs)
set_option maxHeartbeats 1000000 in
theorem ks_bipush {D : va_G} {aC : Nat → ClassId} {lw : Nat} {G : kG} {p : Program} {l : Launch} {e : Env} {R : Room} {s : State} {m : MethodId} {args : Array Value} {below : List Frame} {meth : Method} {c : Code} {Q : State → Prop} {y : Nat} {C : kCl} {P : kO → kH → Prop} {d MC MS : Nat} (Z : kZ D aC lw G p l e R s m args below meth c Q y C P d MC MS) : kc_bipush G y C P (kOK aC D lw y p l e R s m args below meth c Q MC MS) := by
  obtain ⟨hx, hb, hml, hown, hts, hK, hini, hroom, hexh, IH, hend⟩ := Z
  intro pc lo st h mc ms n v hd hv k1 H locs cells slots LS hR hS hL hc hs
  exact lv_bipush hx hb (kDec hd) hv (k1 H locs cells slots LS hR hS hL hc hs)
set_option maxHeartbeats 1000000 in
theorem ks_sipush {D : va_G} {aC : Nat → ClassId} {lw : Nat} {G : kG} {p : Program} {l : Launch} {e : Env} {R : Room} {s : State} {m : MethodId} {args : Array Value} {below : List Frame} {meth : Method} {c : Code} {Q : State → Prop} {y : Nat} {C : kCl} {P : kO → kH → Prop} {d MC MS : Nat} (Z : kZ D aC lw G p l e R s m args below meth c Q y C P d MC MS) : kc_sipush G y C P (kOK aC D lw y p l e R s m args below meth c Q MC MS) := by
  obtain ⟨hx, hb, hml, hown, hts, hK, hini, hroom, hexh, IH, hend⟩ := Z
  intro pc lo st h mc ms n v hd hv k1 H locs cells slots LS hR hS hL hc hs
  exact lv_sipush hx hb (kDec hd) hv (k1 H locs cells slots LS hR hS hL hc hs)
set_option maxHeartbeats 1000000 in
theorem ks_null {D : va_G} {aC : Nat → ClassId} {lw : Nat} {G : kG} {p : Program} {l : Launch} {e : Env} {R : Room} {s : State} {m : MethodId} {args : Array Value} {below : List Frame} {meth : Method} {c : Code} {Q : State → Prop} {y : Nat} {C : kCl} {P : kO → kH → Prop} {d MC MS : Nat} (Z : kZ D aC lw G p l e R s m args below meth c Q y C P d MC MS) : kc_null G y C P (kOK aC D lw y p l e R s m args below meth c Q MC MS) := by
  obtain ⟨hx, hb, hml, hown, hts, hK, hini, hroom, hexh, IH, hend⟩ := Z
  intro pc lo st h mc ms hd k1 H locs cells slots LS hR hS hL hc hs
  exact lv_null hx hb (kDec hd) (k1 H locs cells slots LS hR hS hL hc hs)
set_option maxHeartbeats 1000000 in
theorem ks_lconst {D : va_G} {aC : Nat → ClassId} {lw : Nat} {G : kG} {p : Program} {l : Launch} {e : Env} {R : Room} {s : State} {m : MethodId} {args : Array Value} {below : List Frame} {meth : Method} {c : Code} {Q : State → Prop} {y : Nat} {C : kCl} {P : kO → kH → Prop} {d MC MS : Nat} (Z : kZ D aC lw G p l e R s m args below meth c Q y C P d MC MS) : kc_lconst G y C P (kOK aC D lw y p l e R s m args below meth c Q MC MS) := by
  obtain ⟨hx, hb, hml, hown, hts, hK, hini, hroom, hexh, IH, hend⟩ := Z
  intro pc lo st h mc ms n v hd hv k1 H locs cells slots LS hR hS hL hc hs
  exact lv_lconst hx hb (kDec hd) hv (k1 H locs cells slots LS hR hS hL hc hs)
set_option maxHeartbeats 1000000 in
theorem ks_ldc {D : va_G} {aC : Nat → ClassId} {lw : Nat} {G : kG} {p : Program} {l : Launch} {e : Env} {R : Room} {s : State} {m : MethodId} {args : Array Value} {below : List Frame} {meth : Method} {c : Code} {Q : State → Prop} {y : Nat} {C : kCl} {P : kO → kH → Prop} {d MC MS : Nat} (Z : kZ D aC lw G p l e R s m args below meth c Q y C P d MC MS) : kc_ldc G y C P (kOK aC D lw y p l e R s m args below meth c Q MC MS) := by
  obtain ⟨hx, hb, hml, hown, hts, hK, hini, hroom, hexh, IH, hend⟩ := Z
  intro pc lo st h mc ms i v hd hv k1 H locs cells slots LS hR hS hL hc hs
  exact lv_ldc hx hb hown (hts _ (kCst_ok hv)) (kDec hd) (k1 H locs cells slots LS hR hS hL hc hs)
set_option maxHeartbeats 1000000 in
theorem ks_iload_n {D : va_G} {aC : Nat → ClassId} {lw : Nat} {G : kG} {p : Program} {l : Launch} {e : Env} {R : Room} {s : State} {m : MethodId} {args : Array Value} {below : List Frame} {meth : Method} {c : Code} {Q : State → Prop} {y : Nat} {C : kCl} {P : kO → kH → Prop} {d MC MS : Nat} (Z : kZ D aC lw G p l e R s m args below meth c Q y C P d MC MS) : kc_iload_n G y C P (kOK aC D lw y p l e R s m args below meth c Q MC MS) := by
  obtain ⟨hx, hb, hml, hown, hts, hK, hini, hroom, hexh, IH, hend⟩ := Z
  intro pc lo st h mc ms k x hd hl k1 H locs cells slots LS hR hS hL hc hs
  exact lv_iload_n hx hb (kDec hd) rfl (hL.at hl) (k1 H locs cells slots LS hR hS hL hc hs)
set_option maxHeartbeats 1000000 in
theorem ks_iload {D : va_G} {aC : Nat → ClassId} {lw : Nat} {G : kG} {p : Program} {l : Launch} {e : Env} {R : Room} {s : State} {m : MethodId} {args : Array Value} {below : List Frame} {meth : Method} {c : Code} {Q : State → Prop} {y : Nat} {C : kCl} {P : kO → kH → Prop} {d MC MS : Nat} (Z : kZ D aC lw G p l e R s m args below meth c Q y C P d MC MS) : kc_iload G y C P (kOK aC D lw y p l e R s m args below meth c Q MC MS) := by
  obtain ⟨hx, hb, hml, hown, hts, hK, hini, hroom, hexh, IH, hend⟩ := Z
  intro pc lo st h mc ms k x hd hl k1 H locs cells slots LS hR hS hL hc hs
  exact lv_iload hx hb (kDec hd) (hL.at hl) (k1 H locs cells slots LS hR hS hL hc hs)
set_option maxHeartbeats 1000000 in
theorem ks_aload_n {D : va_G} {aC : Nat → ClassId} {lw : Nat} {G : kG} {p : Program} {l : Launch} {e : Env} {R : Room} {s : State} {m : MethodId} {args : Array Value} {below : List Frame} {meth : Method} {c : Code} {Q : State → Prop} {y : Nat} {C : kCl} {P : kO → kH → Prop} {d MC MS : Nat} (Z : kZ D aC lw G p l e R s m args below meth c Q y C P d MC MS) : kc_aload_n G y C P (kOK aC D lw y p l e R s m args below meth c Q MC MS) := by
  obtain ⟨hx, hb, hml, hown, hts, hK, hini, hroom, hexh, IH, hend⟩ := Z
  intro pc lo st h mc ms k v hd hl hv k1 H locs cells slots LS hR hS hL hc hs
  have hq := (hL.at hl)
  cases v with
  | ref x => exact lv_aload_n hx hb (kDec hd) rfl hq (k1 H locs cells slots LS hR hS hL hc hs)
  | null => exact lv_aload_nN hx hb (kDec hd) rfl hq (k1 H locs cells slots LS hR hS hL hc hs)
  | _ => simp [Value.isRef] at hv
set_option maxHeartbeats 1000000 in
theorem ks_aload {D : va_G} {aC : Nat → ClassId} {lw : Nat} {G : kG} {p : Program} {l : Launch} {e : Env} {R : Room} {s : State} {m : MethodId} {args : Array Value} {below : List Frame} {meth : Method} {c : Code} {Q : State → Prop} {y : Nat} {C : kCl} {P : kO → kH → Prop} {d MC MS : Nat} (Z : kZ D aC lw G p l e R s m args below meth c Q y C P d MC MS) : kc_aload G y C P (kOK aC D lw y p l e R s m args below meth c Q MC MS) := by
  obtain ⟨hx, hb, hml, hown, hts, hK, hini, hroom, hexh, IH, hend⟩ := Z
  intro pc lo st h mc ms k v hd hl hv k1 H locs cells slots LS hR hS hL hc hs
  have hq := (hL.at hl)
  cases v with
  | ref x => exact lv_aload hx hb (kDec hd) hq (k1 H locs cells slots LS hR hS hL hc hs)
  | null => exact lv_aloadN hx hb (kDec hd) hq (k1 H locs cells slots LS hR hS hL hc hs)
  | _ => simp [Value.isRef] at hv
set_option maxHeartbeats 1000000 in
theorem ks_istore_n {D : va_G} {aC : Nat → ClassId} {lw : Nat} {G : kG} {p : Program} {l : Launch} {e : Env} {R : Room} {s : State} {m : MethodId} {args : Array Value} {below : List Frame} {meth : Method} {c : Code} {Q : State → Prop} {y : Nat} {C : kCl} {P : kO → kH → Prop} {d MC MS : Nat} (Z : kZ D aC lw G p l e R s m args below meth c Q y C P d MC MS) : kc_istore_n G y C P (kOK aC D lw y p l e R s m args below meth c Q MC MS) := by
  obtain ⟨hx, hb, hml, hown, hts, hK, hini, hroom, hexh, IH, hend⟩ := Z
  intro pc lo st h mc ms k x lo2 hd hk he k1 H locs cells slots LS hR hS hL hc hs
  exact lv_istore_n hx hb (kDec hd) rfl hL.has (hL.lt hk) rfl (fun LS2 hL2 => k1 H locs cells slots LS2 hR hS (he ▸ kLo.of hL hL2 rfl) hc hs)
set_option maxHeartbeats 1000000 in
theorem ks_istore {D : va_G} {aC : Nat → ClassId} {lw : Nat} {G : kG} {p : Program} {l : Launch} {e : Env} {R : Room} {s : State} {m : MethodId} {args : Array Value} {below : List Frame} {meth : Method} {c : Code} {Q : State → Prop} {y : Nat} {C : kCl} {P : kO → kH → Prop} {d MC MS : Nat} (Z : kZ D aC lw G p l e R s m args below meth c Q y C P d MC MS) : kc_istore G y C P (kOK aC D lw y p l e R s m args below meth c Q MC MS) := by
  obtain ⟨hx, hb, hml, hown, hts, hK, hini, hroom, hexh, IH, hend⟩ := Z
  intro pc lo st h mc ms k x lo2 hd hk he k1 H locs cells slots LS hR hS hL hc hs
  exact lv_istore hx hb (kDec hd) hL.has (hL.lt hk) rfl (fun LS2 hL2 => k1 H locs cells slots LS2 hR hS (he ▸ kLo.of hL hL2 rfl) hc hs)
set_option maxHeartbeats 1000000 in
theorem ks_astore_n {D : va_G} {aC : Nat → ClassId} {lw : Nat} {G : kG} {p : Program} {l : Launch} {e : Env} {R : Room} {s : State} {m : MethodId} {args : Array Value} {below : List Frame} {meth : Method} {c : Code} {Q : State → Prop} {y : Nat} {C : kCl} {P : kO → kH → Prop} {d MC MS : Nat} (Z : kZ D aC lw G p l e R s m args below meth c Q y C P d MC MS) : kc_astore_n G y C P (kOK aC D lw y p l e R s m args below meth c Q MC MS) := by
  obtain ⟨hx, hb, hml, hown, hts, hK, hini, hroom, hexh, IH, hend⟩ := Z
  intro pc lo st h mc ms k v lo2 hd hk hv he k1 H locs cells slots LS hR hS hL hc hs
  cases v with
  | ref x => exact lv_astore_n hx hb (kDec hd) rfl hL.has (hL.lt hk) rfl (fun LS2 hL2 => k1 H locs cells slots LS2 hR hS (he ▸ kLo.of hL hL2 rfl) hc hs)
  | null => exact lv_astore_nN hx hb (kDec hd) rfl hL.has (hL.lt hk) rfl (fun LS2 hL2 => k1 H locs cells slots LS2 hR hS (he ▸ kLo.of hL hL2 rfl) hc hs)
  | _ => simp [Value.isRef] at hv
set_option maxHeartbeats 1000000 in
theorem ks_astore {D : va_G} {aC : Nat → ClassId} {lw : Nat} {G : kG} {p : Program} {l : Launch} {e : Env} {R : Room} {s : State} {m : MethodId} {args : Array Value} {below : List Frame} {meth : Method} {c : Code} {Q : State → Prop} {y : Nat} {C : kCl} {P : kO → kH → Prop} {d MC MS : Nat} (Z : kZ D aC lw G p l e R s m args below meth c Q y C P d MC MS) : kc_astore G y C P (kOK aC D lw y p l e R s m args below meth c Q MC MS) := by
  obtain ⟨hx, hb, hml, hown, hts, hK, hini, hroom, hexh, IH, hend⟩ := Z
  intro pc lo st h mc ms k v lo2 hd hk hv he k1 H locs cells slots LS hR hS hL hc hs
  cases v with
  | ref x => exact lv_astore hx hb (kDec hd) hL.has (hL.lt hk) rfl (fun LS2 hL2 => k1 H locs cells slots LS2 hR hS (he ▸ kLo.of hL hL2 rfl) hc hs)
  | null => exact lv_astoreN hx hb (kDec hd) hL.has (hL.lt hk) rfl (fun LS2 hL2 => k1 H locs cells slots LS2 hR hS (he ▸ kLo.of hL hL2 rfl) hc hs)
  | _ => simp [Value.isRef] at hv
set_option maxHeartbeats 1000000 in
theorem ks_iinc {D : va_G} {aC : Nat → ClassId} {lw : Nat} {G : kG} {p : Program} {l : Launch} {e : Env} {R : Room} {s : State} {m : MethodId} {args : Array Value} {below : List Frame} {meth : Method} {c : Code} {Q : State → Prop} {y : Nat} {C : kCl} {P : kO → kH → Prop} {d MC MS : Nat} (Z : kZ D aC lw G p l e R s m args below meth c Q y C P d MC MS) : kc_iinc G y C P (kOK aC D lw y p l e R s m args below meth c Q MC MS) := by
  obtain ⟨hx, hb, hml, hown, hts, hK, hini, hroom, hexh, IH, hend⟩ := Z
  intro pc lo st h mc ms k n x v lo2 hd hl hv he k1 H locs cells slots LS hR hS hL hc hs
  obtain ⟨j, hj⟩ := kl_at hl
  exact lv_iinc hx hb (kDec hd) hL.has hj hv (hL.lt (kLt hl)) rfl (fun LS2 hL2 => k1 H locs cells slots LS2 hR hS (he ▸ kLo.of hL hL2 rfl) hc hs)
set_option maxHeartbeats 1000000 in
theorem ks_iadd {D : va_G} {aC : Nat → ClassId} {lw : Nat} {G : kG} {p : Program} {l : Launch} {e : Env} {R : Room} {s : State} {m : MethodId} {args : Array Value} {below : List Frame} {meth : Method} {c : Code} {Q : State → Prop} {y : Nat} {C : kCl} {P : kO → kH → Prop} {d MC MS : Nat} (Z : kZ D aC lw G p l e R s m args below meth c Q y C P d MC MS) : kc_iadd G y C P (kOK aC D lw y p l e R s m args below meth c Q MC MS) := by
  obtain ⟨hx, hb, hml, hown, hts, hK, hini, hroom, hexh, IH, hend⟩ := Z
  intro pc lo st h mc ms x z hd k1 H locs cells slots LS hR hS hL hc hs
  exact lv_iadd hx hb (kDec hd) (k1 H locs cells slots LS hR hS hL hc hs)
set_option maxHeartbeats 1000000 in
theorem ks_isub {D : va_G} {aC : Nat → ClassId} {lw : Nat} {G : kG} {p : Program} {l : Launch} {e : Env} {R : Room} {s : State} {m : MethodId} {args : Array Value} {below : List Frame} {meth : Method} {c : Code} {Q : State → Prop} {y : Nat} {C : kCl} {P : kO → kH → Prop} {d MC MS : Nat} (Z : kZ D aC lw G p l e R s m args below meth c Q y C P d MC MS) : kc_isub G y C P (kOK aC D lw y p l e R s m args below meth c Q MC MS) := by
  obtain ⟨hx, hb, hml, hown, hts, hK, hini, hroom, hexh, IH, hend⟩ := Z
  intro pc lo st h mc ms x z hd k1 H locs cells slots LS hR hS hL hc hs
  exact lv_isub hx hb (kDec hd) (k1 H locs cells slots LS hR hS hL hc hs)
set_option maxHeartbeats 1000000 in
theorem ks_imul {D : va_G} {aC : Nat → ClassId} {lw : Nat} {G : kG} {p : Program} {l : Launch} {e : Env} {R : Room} {s : State} {m : MethodId} {args : Array Value} {below : List Frame} {meth : Method} {c : Code} {Q : State → Prop} {y : Nat} {C : kCl} {P : kO → kH → Prop} {d MC MS : Nat} (Z : kZ D aC lw G p l e R s m args below meth c Q y C P d MC MS) : kc_imul G y C P (kOK aC D lw y p l e R s m args below meth c Q MC MS) := by
  obtain ⟨hx, hb, hml, hown, hts, hK, hini, hroom, hexh, IH, hend⟩ := Z
  intro pc lo st h mc ms x z hd k1 H locs cells slots LS hR hS hL hc hs
  exact lv_imul hx hb (kDec hd) (k1 H locs cells slots LS hR hS hL hc hs)
set_option maxHeartbeats 1000000 in
theorem ks_iand {D : va_G} {aC : Nat → ClassId} {lw : Nat} {G : kG} {p : Program} {l : Launch} {e : Env} {R : Room} {s : State} {m : MethodId} {args : Array Value} {below : List Frame} {meth : Method} {c : Code} {Q : State → Prop} {y : Nat} {C : kCl} {P : kO → kH → Prop} {d MC MS : Nat} (Z : kZ D aC lw G p l e R s m args below meth c Q y C P d MC MS) : kc_iand G y C P (kOK aC D lw y p l e R s m args below meth c Q MC MS) := by
  obtain ⟨hx, hb, hml, hown, hts, hK, hini, hroom, hexh, IH, hend⟩ := Z
  intro pc lo st h mc ms x z hd k1 H locs cells slots LS hR hS hL hc hs
  exact lv_iand hx hb (kDec hd) (k1 H locs cells slots LS hR hS hL hc hs)
set_option maxHeartbeats 1000000 in
theorem ks_ior {D : va_G} {aC : Nat → ClassId} {lw : Nat} {G : kG} {p : Program} {l : Launch} {e : Env} {R : Room} {s : State} {m : MethodId} {args : Array Value} {below : List Frame} {meth : Method} {c : Code} {Q : State → Prop} {y : Nat} {C : kCl} {P : kO → kH → Prop} {d MC MS : Nat} (Z : kZ D aC lw G p l e R s m args below meth c Q y C P d MC MS) : kc_ior G y C P (kOK aC D lw y p l e R s m args below meth c Q MC MS) := by
  obtain ⟨hx, hb, hml, hown, hts, hK, hini, hroom, hexh, IH, hend⟩ := Z
  intro pc lo st h mc ms x z hd k1 H locs cells slots LS hR hS hL hc hs
  exact lv_ior hx hb (kDec hd) (k1 H locs cells slots LS hR hS hL hc hs)
set_option maxHeartbeats 1000000 in
theorem ks_ixor {D : va_G} {aC : Nat → ClassId} {lw : Nat} {G : kG} {p : Program} {l : Launch} {e : Env} {R : Room} {s : State} {m : MethodId} {args : Array Value} {below : List Frame} {meth : Method} {c : Code} {Q : State → Prop} {y : Nat} {C : kCl} {P : kO → kH → Prop} {d MC MS : Nat} (Z : kZ D aC lw G p l e R s m args below meth c Q y C P d MC MS) : kc_ixor G y C P (kOK aC D lw y p l e R s m args below meth c Q MC MS) := by
  obtain ⟨hx, hb, hml, hown, hts, hK, hini, hroom, hexh, IH, hend⟩ := Z
  intro pc lo st h mc ms x z hd k1 H locs cells slots LS hR hS hL hc hs
  exact lv_ixor hx hb (kDec hd) (k1 H locs cells slots LS hR hS hL hc hs)
set_option maxHeartbeats 1000000 in
theorem ks_idiv {D : va_G} {aC : Nat → ClassId} {lw : Nat} {G : kG} {p : Program} {l : Launch} {e : Env} {R : Room} {s : State} {m : MethodId} {args : Array Value} {below : List Frame} {meth : Method} {c : Code} {Q : State → Prop} {y : Nat} {C : kCl} {P : kO → kH → Prop} {d MC MS : Nat} (Z : kZ D aC lw G p l e R s m args below meth c Q y C P d MC MS) : kc_idiv G y C P (kOK aC D lw y p l e R s m args below meth c Q MC MS) := by
  obtain ⟨hx, hb, hml, hown, hts, hK, hini, hroom, hexh, IH, hend⟩ := Z
  intro pc lo st h mc ms x z hd hz k1 H locs cells slots LS hR hS hL hc hs
  exact lv_idiv hx hb (kDec hd) hz (k1 H locs cells slots LS hR hS hL hc hs)
set_option maxHeartbeats 1000000 in
theorem ks_irem {D : va_G} {aC : Nat → ClassId} {lw : Nat} {G : kG} {p : Program} {l : Launch} {e : Env} {R : Room} {s : State} {m : MethodId} {args : Array Value} {below : List Frame} {meth : Method} {c : Code} {Q : State → Prop} {y : Nat} {C : kCl} {P : kO → kH → Prop} {d MC MS : Nat} (Z : kZ D aC lw G p l e R s m args below meth c Q y C P d MC MS) : kc_irem G y C P (kOK aC D lw y p l e R s m args below meth c Q MC MS) := by
  obtain ⟨hx, hb, hml, hown, hts, hK, hini, hroom, hexh, IH, hend⟩ := Z
  intro pc lo st h mc ms x z hd hz k1 H locs cells slots LS hR hS hL hc hs
  exact lv_irem hx hb (kDec hd) hz (k1 H locs cells slots LS hR hS hL hc hs)
set_option maxHeartbeats 1000000 in
theorem ks_lcmp {D : va_G} {aC : Nat → ClassId} {lw : Nat} {G : kG} {p : Program} {l : Launch} {e : Env} {R : Room} {s : State} {m : MethodId} {args : Array Value} {below : List Frame} {meth : Method} {c : Code} {Q : State → Prop} {y : Nat} {C : kCl} {P : kO → kH → Prop} {d MC MS : Nat} (Z : kZ D aC lw G p l e R s m args below meth c Q y C P d MC MS) : kc_lcmp G y C P (kOK aC D lw y p l e R s m args below meth c Q MC MS) := by
  obtain ⟨hx, hb, hml, hown, hts, hK, hini, hroom, hexh, IH, hend⟩ := Z
  intro pc lo st h mc ms x z v hd hv k1 H locs cells slots LS hR hS hL hc hs
  subst hv
  exact W.lcmp hx hb (kDec hd) (k1 H locs cells slots LS hR hS hL hc hs)
set_option maxHeartbeats 1000000 in
theorem ks_ineg {D : va_G} {aC : Nat → ClassId} {lw : Nat} {G : kG} {p : Program} {l : Launch} {e : Env} {R : Room} {s : State} {m : MethodId} {args : Array Value} {below : List Frame} {meth : Method} {c : Code} {Q : State → Prop} {y : Nat} {C : kCl} {P : kO → kH → Prop} {d MC MS : Nat} (Z : kZ D aC lw G p l e R s m args below meth c Q y C P d MC MS) : kc_ineg G y C P (kOK aC D lw y p l e R s m args below meth c Q MC MS) := by
  obtain ⟨hx, hb, hml, hown, hts, hK, hini, hroom, hexh, IH, hend⟩ := Z
  intro pc lo st h mc ms x hd k1 H locs cells slots LS hR hS hL hc hs
  exact lv_ineg hx hb (kDec hd) (k1 H locs cells slots LS hR hS hL hc hs)
set_option maxHeartbeats 1000000 in
theorem ks_i2l {D : va_G} {aC : Nat → ClassId} {lw : Nat} {G : kG} {p : Program} {l : Launch} {e : Env} {R : Room} {s : State} {m : MethodId} {args : Array Value} {below : List Frame} {meth : Method} {c : Code} {Q : State → Prop} {y : Nat} {C : kCl} {P : kO → kH → Prop} {d MC MS : Nat} (Z : kZ D aC lw G p l e R s m args below meth c Q y C P d MC MS) : kc_i2l G y C P (kOK aC D lw y p l e R s m args below meth c Q MC MS) := by
  obtain ⟨hx, hb, hml, hown, hts, hK, hini, hroom, hexh, IH, hend⟩ := Z
  intro pc lo st h mc ms x hd k1 H locs cells slots LS hR hS hL hc hs
  exact lv_i2l hx hb (kDec hd) rfl (k1 H locs cells slots LS hR hS hL hc hs)
set_option maxHeartbeats 1000000 in
theorem ks_dup {D : va_G} {aC : Nat → ClassId} {lw : Nat} {G : kG} {p : Program} {l : Launch} {e : Env} {R : Room} {s : State} {m : MethodId} {args : Array Value} {below : List Frame} {meth : Method} {c : Code} {Q : State → Prop} {y : Nat} {C : kCl} {P : kO → kH → Prop} {d MC MS : Nat} (Z : kZ D aC lw G p l e R s m args below meth c Q y C P d MC MS) : kc_dup G y C P (kOK aC D lw y p l e R s m args below meth c Q MC MS) := by
  obtain ⟨hx, hb, hml, hown, hts, hK, hini, hroom, hexh, IH, hend⟩ := Z
  intro pc lo st h mc ms v hd hv k1 H locs cells slots LS hR hS hL hc hs
  exact lv_dup hx hb (kDec hd) hv (k1 H locs cells slots LS hR hS hL hc hs)
set_option maxHeartbeats 1000000 in
theorem ks_pop {D : va_G} {aC : Nat → ClassId} {lw : Nat} {G : kG} {p : Program} {l : Launch} {e : Env} {R : Room} {s : State} {m : MethodId} {args : Array Value} {below : List Frame} {meth : Method} {c : Code} {Q : State → Prop} {y : Nat} {C : kCl} {P : kO → kH → Prop} {d MC MS : Nat} (Z : kZ D aC lw G p l e R s m args below meth c Q y C P d MC MS) : kc_pop G y C P (kOK aC D lw y p l e R s m args below meth c Q MC MS) := by
  obtain ⟨hx, hb, hml, hown, hts, hK, hini, hroom, hexh, IH, hend⟩ := Z
  intro pc lo st h mc ms v hd hv k1 H locs cells slots LS hR hS hL hc hs
  exact lv_pop hx hb (kDec hd) hv (k1 H locs cells slots LS hR hS hL hc hs)
set_option maxHeartbeats 1000000 in
theorem ks_dup_x1 {D : va_G} {aC : Nat → ClassId} {lw : Nat} {G : kG} {p : Program} {l : Launch} {e : Env} {R : Room} {s : State} {m : MethodId} {args : Array Value} {below : List Frame} {meth : Method} {c : Code} {Q : State → Prop} {y : Nat} {C : kCl} {P : kO → kH → Prop} {d MC MS : Nat} (Z : kZ D aC lw G p l e R s m args below meth c Q y C P d MC MS) : kc_dup_x1 G y C P (kOK aC D lw y p l e R s m args below meth c Q MC MS) := by
  obtain ⟨hx, hb, hml, hown, hts, hK, hini, hroom, hexh, IH, hend⟩ := Z
  intro pc lo st h mc ms v w hd hv hw k1 H locs cells slots LS hR hS hL hc hs
  exact lv_dup_x1 hx hb (kDec hd) hv hw (k1 H locs cells slots LS hR hS hL hc hs)
set_option maxHeartbeats 1000000 in
theorem ks_dup2 {D : va_G} {aC : Nat → ClassId} {lw : Nat} {G : kG} {p : Program} {l : Launch} {e : Env} {R : Room} {s : State} {m : MethodId} {args : Array Value} {below : List Frame} {meth : Method} {c : Code} {Q : State → Prop} {y : Nat} {C : kCl} {P : kO → kH → Prop} {d MC MS : Nat} (Z : kZ D aC lw G p l e R s m args below meth c Q y C P d MC MS) : kc_dup2 G y C P (kOK aC D lw y p l e R s m args below meth c Q MC MS) := by
  obtain ⟨hx, hb, hml, hown, hts, hK, hini, hroom, hexh, IH, hend⟩ := Z
  intro pc lo st h mc ms v w hd hv hw k1 H locs cells slots LS hR hS hL hc hs
  exact lv_dup2_11 hx hb (kDec hd) hv hw (k1 H locs cells slots LS hR hS hL hc hs)
set_option maxHeartbeats 1000000 in
theorem ks_goto {D : va_G} {aC : Nat → ClassId} {lw : Nat} {G : kG} {p : Program} {l : Launch} {e : Env} {R : Room} {s : State} {m : MethodId} {args : Array Value} {below : List Frame} {meth : Method} {c : Code} {Q : State → Prop} {y : Nat} {C : kCl} {P : kO → kH → Prop} {d MC MS : Nat} (Z : kZ D aC lw G p l e R s m args below meth c Q y C P d MC MS) : kc_goto G y C P (kOK aC D lw y p l e R s m args below meth c Q MC MS) := by
  obtain ⟨hx, hb, hml, hown, hts, hK, hini, hroom, hexh, IH, hend⟩ := Z
  intro pc lo st h mc ms off tgt hd ht k1 H locs cells slots LS hR hS hL hc hs
  exact lv_goto hx hb (kDec hd) ht (k1 H locs cells slots LS hR hS hL hc hs)
set_option maxHeartbeats 1000000 in
theorem ks_if_eq {D : va_G} {aC : Nat → ClassId} {lw : Nat} {G : kG} {p : Program} {l : Launch} {e : Env} {R : Room} {s : State} {m : MethodId} {args : Array Value} {below : List Frame} {meth : Method} {c : Code} {Q : State → Prop} {y : Nat} {C : kCl} {P : kO → kH → Prop} {d MC MS : Nat} (Z : kZ D aC lw G p l e R s m args below meth c Q y C P d MC MS) : kc_if_eq G y C P (kOK aC D lw y p l e R s m args below meth c Q MC MS) := by
  obtain ⟨hx, hb, hml, hown, hts, hK, hini, hroom, hexh, IH, hend⟩ := Z
  intro pc lo st h mc ms x off tgt hd ht k1 k2 H locs cells slots LS hR hS hL hc hs
  exact lv_if_eq hx hb (kDec hd) ht (fun c => k1 c H locs cells slots LS hR hS hL hc hs) (fun c => k2 c H locs cells slots LS hR hS hL hc hs)
set_option maxHeartbeats 1000000 in
theorem ks_if_ne {D : va_G} {aC : Nat → ClassId} {lw : Nat} {G : kG} {p : Program} {l : Launch} {e : Env} {R : Room} {s : State} {m : MethodId} {args : Array Value} {below : List Frame} {meth : Method} {c : Code} {Q : State → Prop} {y : Nat} {C : kCl} {P : kO → kH → Prop} {d MC MS : Nat} (Z : kZ D aC lw G p l e R s m args below meth c Q y C P d MC MS) : kc_if_ne G y C P (kOK aC D lw y p l e R s m args below meth c Q MC MS) := by
  obtain ⟨hx, hb, hml, hown, hts, hK, hini, hroom, hexh, IH, hend⟩ := Z
  intro pc lo st h mc ms x off tgt hd ht k1 k2 H locs cells slots LS hR hS hL hc hs
  exact lv_if_ne hx hb (kDec hd) ht (fun c => k1 c H locs cells slots LS hR hS hL hc hs) (fun c => k2 c H locs cells slots LS hR hS hL hc hs)
set_option maxHeartbeats 1000000 in
theorem ks_if_lt {D : va_G} {aC : Nat → ClassId} {lw : Nat} {G : kG} {p : Program} {l : Launch} {e : Env} {R : Room} {s : State} {m : MethodId} {args : Array Value} {below : List Frame} {meth : Method} {c : Code} {Q : State → Prop} {y : Nat} {C : kCl} {P : kO → kH → Prop} {d MC MS : Nat} (Z : kZ D aC lw G p l e R s m args below meth c Q y C P d MC MS) : kc_if_lt G y C P (kOK aC D lw y p l e R s m args below meth c Q MC MS) := by
  obtain ⟨hx, hb, hml, hown, hts, hK, hini, hroom, hexh, IH, hend⟩ := Z
  intro pc lo st h mc ms x off tgt hd ht k1 k2 H locs cells slots LS hR hS hL hc hs
  exact lv_if_lt hx hb (kDec hd) ht (fun c => k1 c H locs cells slots LS hR hS hL hc hs) (fun c => k2 c H locs cells slots LS hR hS hL hc hs)
set_option maxHeartbeats 1000000 in
theorem ks_if_ge {D : va_G} {aC : Nat → ClassId} {lw : Nat} {G : kG} {p : Program} {l : Launch} {e : Env} {R : Room} {s : State} {m : MethodId} {args : Array Value} {below : List Frame} {meth : Method} {c : Code} {Q : State → Prop} {y : Nat} {C : kCl} {P : kO → kH → Prop} {d MC MS : Nat} (Z : kZ D aC lw G p l e R s m args below meth c Q y C P d MC MS) : kc_if_ge G y C P (kOK aC D lw y p l e R s m args below meth c Q MC MS) := by
  obtain ⟨hx, hb, hml, hown, hts, hK, hini, hroom, hexh, IH, hend⟩ := Z
  intro pc lo st h mc ms x off tgt hd ht k1 k2 H locs cells slots LS hR hS hL hc hs
  exact lv_if_ge hx hb (kDec hd) ht (fun c => k1 c H locs cells slots LS hR hS hL hc hs) (fun c => k2 c H locs cells slots LS hR hS hL hc hs)
set_option maxHeartbeats 1000000 in
theorem ks_if_gt {D : va_G} {aC : Nat → ClassId} {lw : Nat} {G : kG} {p : Program} {l : Launch} {e : Env} {R : Room} {s : State} {m : MethodId} {args : Array Value} {below : List Frame} {meth : Method} {c : Code} {Q : State → Prop} {y : Nat} {C : kCl} {P : kO → kH → Prop} {d MC MS : Nat} (Z : kZ D aC lw G p l e R s m args below meth c Q y C P d MC MS) : kc_if_gt G y C P (kOK aC D lw y p l e R s m args below meth c Q MC MS) := by
  obtain ⟨hx, hb, hml, hown, hts, hK, hini, hroom, hexh, IH, hend⟩ := Z
  intro pc lo st h mc ms x off tgt hd ht k1 k2 H locs cells slots LS hR hS hL hc hs
  exact lv_if_gt hx hb (kDec hd) ht (fun c => k1 c H locs cells slots LS hR hS hL hc hs) (fun c => k2 c H locs cells slots LS hR hS hL hc hs)
set_option maxHeartbeats 1000000 in
theorem ks_if_le {D : va_G} {aC : Nat → ClassId} {lw : Nat} {G : kG} {p : Program} {l : Launch} {e : Env} {R : Room} {s : State} {m : MethodId} {args : Array Value} {below : List Frame} {meth : Method} {c : Code} {Q : State → Prop} {y : Nat} {C : kCl} {P : kO → kH → Prop} {d MC MS : Nat} (Z : kZ D aC lw G p l e R s m args below meth c Q y C P d MC MS) : kc_if_le G y C P (kOK aC D lw y p l e R s m args below meth c Q MC MS) := by
  obtain ⟨hx, hb, hml, hown, hts, hK, hini, hroom, hexh, IH, hend⟩ := Z
  intro pc lo st h mc ms x off tgt hd ht k1 k2 H locs cells slots LS hR hS hL hc hs
  exact lv_if_le hx hb (kDec hd) ht (fun c => k1 c H locs cells slots LS hR hS hL hc hs) (fun c => k2 c H locs cells slots LS hR hS hL hc hs)
set_option maxHeartbeats 1000000 in
theorem ks_icmp_eq {D : va_G} {aC : Nat → ClassId} {lw : Nat} {G : kG} {p : Program} {l : Launch} {e : Env} {R : Room} {s : State} {m : MethodId} {args : Array Value} {below : List Frame} {meth : Method} {c : Code} {Q : State → Prop} {y : Nat} {C : kCl} {P : kO → kH → Prop} {d MC MS : Nat} (Z : kZ D aC lw G p l e R s m args below meth c Q y C P d MC MS) : kc_icmp_eq G y C P (kOK aC D lw y p l e R s m args below meth c Q MC MS) := by
  obtain ⟨hx, hb, hml, hown, hts, hK, hini, hroom, hexh, IH, hend⟩ := Z
  intro pc lo st h mc ms x z off tgt hd ht k1 k2 H locs cells slots LS hR hS hL hc hs
  exact lv_icmp_eq hx hb (kDec hd) ht (fun c => k1 c H locs cells slots LS hR hS hL hc hs) (fun c => k2 c H locs cells slots LS hR hS hL hc hs)
set_option maxHeartbeats 1000000 in
theorem ks_icmp_ne {D : va_G} {aC : Nat → ClassId} {lw : Nat} {G : kG} {p : Program} {l : Launch} {e : Env} {R : Room} {s : State} {m : MethodId} {args : Array Value} {below : List Frame} {meth : Method} {c : Code} {Q : State → Prop} {y : Nat} {C : kCl} {P : kO → kH → Prop} {d MC MS : Nat} (Z : kZ D aC lw G p l e R s m args below meth c Q y C P d MC MS) : kc_icmp_ne G y C P (kOK aC D lw y p l e R s m args below meth c Q MC MS) := by
  obtain ⟨hx, hb, hml, hown, hts, hK, hini, hroom, hexh, IH, hend⟩ := Z
  intro pc lo st h mc ms x z off tgt hd ht k1 k2 H locs cells slots LS hR hS hL hc hs
  exact lv_icmp_ne hx hb (kDec hd) ht (fun c => k1 c H locs cells slots LS hR hS hL hc hs) (fun c => k2 c H locs cells slots LS hR hS hL hc hs)
set_option maxHeartbeats 1000000 in
theorem ks_icmp_lt {D : va_G} {aC : Nat → ClassId} {lw : Nat} {G : kG} {p : Program} {l : Launch} {e : Env} {R : Room} {s : State} {m : MethodId} {args : Array Value} {below : List Frame} {meth : Method} {c : Code} {Q : State → Prop} {y : Nat} {C : kCl} {P : kO → kH → Prop} {d MC MS : Nat} (Z : kZ D aC lw G p l e R s m args below meth c Q y C P d MC MS) : kc_icmp_lt G y C P (kOK aC D lw y p l e R s m args below meth c Q MC MS) := by
  obtain ⟨hx, hb, hml, hown, hts, hK, hini, hroom, hexh, IH, hend⟩ := Z
  intro pc lo st h mc ms x z off tgt hd ht k1 k2 H locs cells slots LS hR hS hL hc hs
  exact lv_icmp_lt hx hb (kDec hd) ht (fun c => k1 c H locs cells slots LS hR hS hL hc hs) (fun c => k2 c H locs cells slots LS hR hS hL hc hs)
set_option maxHeartbeats 1000000 in
theorem ks_icmp_ge {D : va_G} {aC : Nat → ClassId} {lw : Nat} {G : kG} {p : Program} {l : Launch} {e : Env} {R : Room} {s : State} {m : MethodId} {args : Array Value} {below : List Frame} {meth : Method} {c : Code} {Q : State → Prop} {y : Nat} {C : kCl} {P : kO → kH → Prop} {d MC MS : Nat} (Z : kZ D aC lw G p l e R s m args below meth c Q y C P d MC MS) : kc_icmp_ge G y C P (kOK aC D lw y p l e R s m args below meth c Q MC MS) := by
  obtain ⟨hx, hb, hml, hown, hts, hK, hini, hroom, hexh, IH, hend⟩ := Z
  intro pc lo st h mc ms x z off tgt hd ht k1 k2 H locs cells slots LS hR hS hL hc hs
  exact lv_icmp_ge hx hb (kDec hd) ht (fun c => k1 c H locs cells slots LS hR hS hL hc hs) (fun c => k2 c H locs cells slots LS hR hS hL hc hs)
set_option maxHeartbeats 1000000 in
theorem ks_icmp_gt {D : va_G} {aC : Nat → ClassId} {lw : Nat} {G : kG} {p : Program} {l : Launch} {e : Env} {R : Room} {s : State} {m : MethodId} {args : Array Value} {below : List Frame} {meth : Method} {c : Code} {Q : State → Prop} {y : Nat} {C : kCl} {P : kO → kH → Prop} {d MC MS : Nat} (Z : kZ D aC lw G p l e R s m args below meth c Q y C P d MC MS) : kc_icmp_gt G y C P (kOK aC D lw y p l e R s m args below meth c Q MC MS) := by
  obtain ⟨hx, hb, hml, hown, hts, hK, hini, hroom, hexh, IH, hend⟩ := Z
  intro pc lo st h mc ms x z off tgt hd ht k1 k2 H locs cells slots LS hR hS hL hc hs
  exact lv_icmp_gt hx hb (kDec hd) ht (fun c => k1 c H locs cells slots LS hR hS hL hc hs) (fun c => k2 c H locs cells slots LS hR hS hL hc hs)
set_option maxHeartbeats 1000000 in
theorem ks_icmp_le {D : va_G} {aC : Nat → ClassId} {lw : Nat} {G : kG} {p : Program} {l : Launch} {e : Env} {R : Room} {s : State} {m : MethodId} {args : Array Value} {below : List Frame} {meth : Method} {c : Code} {Q : State → Prop} {y : Nat} {C : kCl} {P : kO → kH → Prop} {d MC MS : Nat} (Z : kZ D aC lw G p l e R s m args below meth c Q y C P d MC MS) : kc_icmp_le G y C P (kOK aC D lw y p l e R s m args below meth c Q MC MS) := by
  obtain ⟨hx, hb, hml, hown, hts, hK, hini, hroom, hexh, IH, hend⟩ := Z
  intro pc lo st h mc ms x z off tgt hd ht k1 k2 H locs cells slots LS hR hS hL hc hs
  exact lv_icmp_le hx hb (kDec hd) ht (fun c => k1 c H locs cells slots LS hR hS hL hc hs) (fun c => k2 c H locs cells slots LS hR hS hL hc hs)
set_option maxHeartbeats 1000000 in
theorem ks_nonnull {D : va_G} {aC : Nat → ClassId} {lw : Nat} {G : kG} {p : Program} {l : Launch} {e : Env} {R : Room} {s : State} {m : MethodId} {args : Array Value} {below : List Frame} {meth : Method} {c : Code} {Q : State → Prop} {y : Nat} {C : kCl} {P : kO → kH → Prop} {d MC MS : Nat} (Z : kZ D aC lw G p l e R s m args below meth c Q y C P d MC MS) : kc_nonnull G y C P (kOK aC D lw y p l e R s m args below meth c Q MC MS) := by
  obtain ⟨hx, hb, hml, hown, hts, hK, hini, hroom, hexh, IH, hend⟩ := Z
  intro pc lo st h mc ms a off tgt hd ht k1 H locs cells slots LS hR hS hL hc hs
  exact lv_ifnonnull hx hb (kDec hd) ht (k1 H locs cells slots LS hR hS hL hc hs)
set_option maxHeartbeats 1000000 in
theorem ks_nonnullN {D : va_G} {aC : Nat → ClassId} {lw : Nat} {G : kG} {p : Program} {l : Launch} {e : Env} {R : Room} {s : State} {m : MethodId} {args : Array Value} {below : List Frame} {meth : Method} {c : Code} {Q : State → Prop} {y : Nat} {C : kCl} {P : kO → kH → Prop} {d MC MS : Nat} (Z : kZ D aC lw G p l e R s m args below meth c Q y C P d MC MS) : kc_nonnullN G y C P (kOK aC D lw y p l e R s m args below meth c Q MC MS) := by
  obtain ⟨hx, hb, hml, hown, hts, hK, hini, hroom, hexh, IH, hend⟩ := Z
  intro pc lo st h mc ms off hd k1 H locs cells slots LS hR hS hL hc hs
  exact lv_ifnonnullN hx hb (kDec hd) (k1 H locs cells slots LS hR hS hL hc hs)
set_option maxHeartbeats 1000000 in
theorem ks_isnull {D : va_G} {aC : Nat → ClassId} {lw : Nat} {G : kG} {p : Program} {l : Launch} {e : Env} {R : Room} {s : State} {m : MethodId} {args : Array Value} {below : List Frame} {meth : Method} {c : Code} {Q : State → Prop} {y : Nat} {C : kCl} {P : kO → kH → Prop} {d MC MS : Nat} (Z : kZ D aC lw G p l e R s m args below meth c Q y C P d MC MS) : kc_isnull G y C P (kOK aC D lw y p l e R s m args below meth c Q MC MS) := by
  obtain ⟨hx, hb, hml, hown, hts, hK, hini, hroom, hexh, IH, hend⟩ := Z
  intro pc lo st h mc ms a off hd k1 H locs cells slots LS hR hS hL hc hs
  exact lv_ifnull hx hb (kDec hd) (k1 H locs cells slots LS hR hS hL hc hs)
set_option maxHeartbeats 1000000 in
theorem ks_isnullN {D : va_G} {aC : Nat → ClassId} {lw : Nat} {G : kG} {p : Program} {l : Launch} {e : Env} {R : Room} {s : State} {m : MethodId} {args : Array Value} {below : List Frame} {meth : Method} {c : Code} {Q : State → Prop} {y : Nat} {C : kCl} {P : kO → kH → Prop} {d MC MS : Nat} (Z : kZ D aC lw G p l e R s m args below meth c Q y C P d MC MS) : kc_isnullN G y C P (kOK aC D lw y p l e R s m args below meth c Q MC MS) := by
  obtain ⟨hx, hb, hml, hown, hts, hK, hini, hroom, hexh, IH, hend⟩ := Z
  intro pc lo st h mc ms off tgt hd ht k1 H locs cells slots LS hR hS hL hc hs
  exact lv_ifnullN hx hb (kDec hd) ht (k1 H locs cells slots LS hR hS hL hc hs)
set_option maxHeartbeats 1000000 in
theorem ks_tswIn {D : va_G} {aC : Nat → ClassId} {lw : Nat} {G : kG} {p : Program} {l : Launch} {e : Env} {R : Room} {s : State} {m : MethodId} {args : Array Value} {below : List Frame} {meth : Method} {c : Code} {Q : State → Prop} {y : Nat} {C : kCl} {P : kO → kH → Prop} {d MC MS : Nat} (Z : kZ D aC lw G p l e R s m args below meth c Q y C P d MC MS) : kc_tswIn G y C P (kOK aC D lw y p l e R s m args below meth c Q MC MS) := by
  obtain ⟨hx, hb, hml, hown, hts, hK, hini, hroom, hexh, IH, hend⟩ := Z
  intro pc lo st h mc ms dflt a b offs len x off tgt hd h1 h2 ho ht k1 H locs cells slots LS hR hS hL hc hs
  exact lv_tableIn hx hb (kDec hd) h1 h2 ho ht (k1 H locs cells slots LS hR hS hL hc hs)
set_option maxHeartbeats 1000000 in
theorem ks_tswOut {D : va_G} {aC : Nat → ClassId} {lw : Nat} {G : kG} {p : Program} {l : Launch} {e : Env} {R : Room} {s : State} {m : MethodId} {args : Array Value} {below : List Frame} {meth : Method} {c : Code} {Q : State → Prop} {y : Nat} {C : kCl} {P : kO → kH → Prop} {d MC MS : Nat} (Z : kZ D aC lw G p l e R s m args below meth c Q y C P d MC MS) : kc_tswOut G y C P (kOK aC D lw y p l e R s m args below meth c Q MC MS) := by
  obtain ⟨hx, hb, hml, hown, hts, hK, hini, hroom, hexh, IH, hend⟩ := Z
  intro pc lo st h mc ms dflt a b offs len x tgt hd h1 ht k1 H locs cells slots LS hR hS hL hc hs
  exact lv_tableOut hx hb (kDec hd) h1 ht (k1 H locs cells slots LS hR hS hL hc hs)
set_option maxHeartbeats 1000000 in
theorem ks_lsw {D : va_G} {aC : Nat → ClassId} {lw : Nat} {G : kG} {p : Program} {l : Launch} {e : Env} {R : Room} {s : State} {m : MethodId} {args : Array Value} {below : List Frame} {meth : Method} {c : Code} {Q : State → Prop} {y : Nat} {C : kCl} {P : kO → kH → Prop} {d MC MS : Nat} (Z : kZ D aC lw G p l e R s m args below meth c Q y C P d MC MS) : kc_lsw G y C P (kOK aC D lw y p l e R s m args below meth c Q MC MS) := by
  obtain ⟨hx, hb, hml, hown, hts, hK, hini, hroom, hexh, IH, hend⟩ := Z
  intro pc lo st h mc ms dflt ps len x off tgt hd hp ho ht k1 H locs cells slots LS hR hS hL hc hs
  exact lv_lookup hx hb (kDec hd) hp ho ht (k1 H locs cells slots LS hR hS hL hc hs)
set_option maxHeartbeats 1000000 in
theorem ks_getf {D : va_G} {aC : Nat → ClassId} {lw : Nat} {G : kG} {p : Program} {l : Launch} {e : Env} {R : Room} {s : State} {m : MethodId} {args : Array Value} {below : List Frame} {meth : Method} {c : Code} {Q : State → Prop} {y : Nat} {C : kCl} {P : kO → kH → Prop} {d MC MS : Nat} (Z : kZ D aC lw G p l e R s m args below meth c Q y C P d MC MS) : kc_getf G y C P (kOK aC D lw y p l e R s m args below meth c Q MC MS) := by
  obtain ⟨hx, hb, hml, hown, hts, hK, hini, hroom, hexh, IH, hend⟩ := Z
  intro pc lo st h mc ms i a ci k fs v hd hf ha hv k1 H locs cells slots LS hR hS hL hc hs
  exact kGet hx hb hown hts hK hR hf ha hv (kDec hd) (k1 H locs cells slots LS hR hS hL hc hs)
set_option maxHeartbeats 1000000 in
theorem ks_iald {D : va_G} {aC : Nat → ClassId} {lw : Nat} {G : kG} {p : Program} {l : Launch} {e : Env} {R : Room} {s : State} {m : MethodId} {args : Array Value} {below : List Frame} {meth : Method} {c : Code} {Q : State → Prop} {y : Nat} {C : kCl} {P : kO → kH → Prop} {d MC MS : Nat} (Z : kZ D aC lw G p l e R s m args below meth c Q y C P d MC MS) : kc_iald G y C P (kOK aC D lw y p l e R s m args below meth c Q MC MS) := by
  obtain ⟨hx, hb, hml, hown, hts, hK, hini, hroom, hexh, IH, hend⟩ := Z
  intro pc lo st h mc ms a n f i hd ha hi k1 H locs cells slots LS hR hS hL hc hs
  exact va_iald hx hb hK.1 (kR.one hR ha) 0 0 rfl rfl hi (kDec hd) (k1 H locs cells slots LS hR hS hL hc hs)
set_option maxHeartbeats 1000000 in
theorem ks_zald {D : va_G} {aC : Nat → ClassId} {lw : Nat} {G : kG} {p : Program} {l : Launch} {e : Env} {R : Room} {s : State} {m : MethodId} {args : Array Value} {below : List Frame} {meth : Method} {c : Code} {Q : State → Prop} {y : Nat} {C : kCl} {P : kO → kH → Prop} {d MC MS : Nat} (Z : kZ D aC lw G p l e R s m args below meth c Q y C P d MC MS) : kc_zald G y C P (kOK aC D lw y p l e R s m args below meth c Q MC MS) := by
  obtain ⟨hx, hb, hml, hown, hts, hK, hini, hroom, hexh, IH, hend⟩ := Z
  intro pc lo st h mc ms a n f i hd ha hi k1 H locs cells slots LS hR hS hL hc hs
  exact va_zald hx hb hK.1 (kR.one hR ha) 0 1 rfl rfl hi (kDec hd) (k1 H locs cells slots LS hR hS hL hc hs)
set_option maxHeartbeats 1000000 in
theorem ks_lald {D : va_G} {aC : Nat → ClassId} {lw : Nat} {G : kG} {p : Program} {l : Launch} {e : Env} {R : Room} {s : State} {m : MethodId} {args : Array Value} {below : List Frame} {meth : Method} {c : Code} {Q : State → Prop} {y : Nat} {C : kCl} {P : kO → kH → Prop} {d MC MS : Nat} (Z : kZ D aC lw G p l e R s m args below meth c Q y C P d MC MS) : kc_lald G y C P (kOK aC D lw y p l e R s m args below meth c Q MC MS) := by
  obtain ⟨hx, hb, hml, hown, hts, hK, hini, hroom, hexh, IH, hend⟩ := Z
  intro pc lo st h mc ms a n f i hd ha hi k1 H locs cells slots LS hR hS hL hc hs
  exact va_lald hx hb hK.1 (kR.one hR ha) 0 2 rfl rfl hi (kDec hd) (k1 H locs cells slots LS hR hS hL hc hs)
set_option maxHeartbeats 1000000 in
theorem ks_aald {D : va_G} {aC : Nat → ClassId} {lw : Nat} {G : kG} {p : Program} {l : Launch} {e : Env} {R : Room} {s : State} {m : MethodId} {args : Array Value} {below : List Frame} {meth : Method} {c : Code} {Q : State → Prop} {y : Nat} {C : kCl} {P : kO → kH → Prop} {d MC MS : Nat} (Z : kZ D aC lw G p l e R s m args below meth c Q y C P d MC MS) : kc_aald G y C P (kOK aC D lw y p l e R s m args below meth c Q MC MS) := by
  obtain ⟨hx, hb, hml, hown, hts, hK, hini, hroom, hexh, IH, hend⟩ := Z
  intro pc lo st h mc ms a n k N f i hd hk ha hi k1 H locs cells slots LS hR hS hL hc hs
  exact va_aldq (C := N) hx hb hK.1 (kR.one hR ha) 0 k rfl (kTys_at hk) hi (kDec hd) (k1 H locs cells slots LS hR hS hL hc hs)
set_option maxHeartbeats 1000000 in
theorem ks_alen {D : va_G} {aC : Nat → ClassId} {lw : Nat} {G : kG} {p : Program} {l : Launch} {e : Env} {R : Room} {s : State} {m : MethodId} {args : Array Value} {below : List Frame} {meth : Method} {c : Code} {Q : State → Prop} {y : Nat} {C : kCl} {P : kO → kH → Prop} {d MC MS : Nat} (Z : kZ D aC lw G p l e R s m args below meth c Q y C P d MC MS) : kc_alen G y C P (kOK aC D lw y p l e R s m args below meth c Q MC MS) := by
  obtain ⟨hx, hb, hml, hown, hts, hK, hini, hroom, hexh, IH, hend⟩ := Z
  intro pc lo st h mc ms a k x v hd ha hk hv k1 H locs cells slots LS hR hS hL hc hs
  obtain ⟨ty, hty⟩ : ∃ ty, kArt[k]? = some ty := ⟨_, List.getElem?_eq_getElem hk⟩
  exact va_alen hx hb hK.1 (kR.one hR ha) 0 k rfl (kTys_at hty) hv (kDec hd) (k1 H locs cells slots LS hR hS hL hc hs)
set_option maxHeartbeats 1000000 in
theorem ks_sald {D : va_G} {aC : Nat → ClassId} {lw : Nat} {G : kG} {p : Program} {l : Launch} {e : Env} {R : Room} {s : State} {m : MethodId} {args : Array Value} {below : List Frame} {meth : Method} {c : Code} {Q : State → Prop} {y : Nat} {C : kCl} {P : kO → kH → Prop} {d MC MS : Nat} (Z : kZ D aC lw G p l e R s m args below meth c Q y C P d MC MS) : kc_sald G y C P (kOK aC D lw y p l e R s m args below meth c Q MC MS) := by
  obtain ⟨hx, hb, hml, hown, hts, hK, hini, hroom, hexh, IH, hend⟩ := Z
  intro pc lo st h mc ms i hd hi k1 H locs cells slots LS hR hS hL hc hs
  exact va_sld hx hb hK.2.2.1 hK.2.2.2.1 (Nat.not_le.mpr hK.2.2.2.2.1) hS hi (kDec hd) (k1 H locs cells slots LS hR hS hL hc hs)
set_option maxHeartbeats 1000000 in
theorem ks_slen {D : va_G} {aC : Nat → ClassId} {lw : Nat} {G : kG} {p : Program} {l : Launch} {e : Env} {R : Room} {s : State} {m : MethodId} {args : Array Value} {below : List Frame} {meth : Method} {c : Code} {Q : State → Prop} {y : Nat} {C : kCl} {P : kO → kH → Prop} {d MC MS : Nat} (Z : kZ D aC lw G p l e R s m args below meth c Q y C P d MC MS) : kc_slen G y C P (kOK aC D lw y p l e R s m args below meth c Q MC MS) := by
  obtain ⟨hx, hb, hml, hown, hts, hK, hini, hroom, hexh, IH, hend⟩ := Z
  intro pc lo st h mc ms v hd hv k1 H locs cells slots LS hR hS hL hc hs
  subst hv
  exact va_slen hx hb hK.2.2.1 hK.2.2.2.1 (Nat.not_le.mpr hK.2.2.2.2.1) hS (kDec hd) (k1 H locs cells slots LS hR hS hL hc hs)
set_option maxHeartbeats 1000000 in
theorem ks_putf {D : va_G} {aC : Nat → ClassId} {lw : Nat} {G : kG} {p : Program} {l : Launch} {e : Env} {R : Room} {s : State} {m : MethodId} {args : Array Value} {below : List Frame} {meth : Method} {c : Code} {Q : State → Prop} {y : Nat} {C : kCl} {P : kO → kH → Prop} {d MC MS : Nat} (Z : kZ D aC lw G p l e R s m args below meth c Q y C P d MC MS) : kc_putf G y C P (kOK aC D lw y p l e R s m args below meth c Q MC MS) := by
  obtain ⟨hx, hb, hml, hown, hts, hK, hini, hroom, hexh, IH, hend⟩ := Z
  intro pc lo st h mc ms i a ci k fs fs2 v hd hf ha hp hl hn hfit he k1 H locs cells slots LS hR hS hL hc hs
  subst he
  exact kPutW hx hb hown hts hK hR hini hf ha hp hl hn hfit (kDec hd) (fun H1 sl hq z oq => k1 _ rfl H1 _ cells slots LS (kR.set hR ha hq oq) (hS.put z oq (hR _ _ ha).1) hL hc hs)
set_option maxHeartbeats 1000000 in
theorem ks_iast {D : va_G} {aC : Nat → ClassId} {lw : Nat} {G : kG} {p : Program} {l : Launch} {e : Env} {R : Room} {s : State} {m : MethodId} {args : Array Value} {below : List Frame} {meth : Method} {c : Code} {Q : State → Prop} {y : Nat} {C : kCl} {P : kO → kH → Prop} {d MC MS : Nat} (Z : kZ D aC lw G p l e R s m args below meth c Q y C P d MC MS) : kc_iast G y C P (kOK aC D lw y p l e R s m args below meth c Q MC MS) := by
  obtain ⟨hx, hb, hml, hown, hts, hK, hini, hroom, hexh, IH, hend⟩ := Z
  intro pc lo st h mc ms a n f i x hd ha hi k1 H locs cells slots LS hR hS hL hc hs
  exact kIast hx hb hK hR ha hi (kDec hd) (fun H1 sl hq z oq => k1 _ rfl H1 _ cells slots LS (kR.set hR ha hq oq) (hS.put z oq (hR _ _ ha).1) hL hc hs)
set_option maxHeartbeats 1000000 in
theorem ks_zast {D : va_G} {aC : Nat → ClassId} {lw : Nat} {G : kG} {p : Program} {l : Launch} {e : Env} {R : Room} {s : State} {m : MethodId} {args : Array Value} {below : List Frame} {meth : Method} {c : Code} {Q : State → Prop} {y : Nat} {C : kCl} {P : kO → kH → Prop} {d MC MS : Nat} (Z : kZ D aC lw G p l e R s m args below meth c Q y C P d MC MS) : kc_zast G y C P (kOK aC D lw y p l e R s m args below meth c Q MC MS) := by
  obtain ⟨hx, hb, hml, hown, hts, hK, hini, hroom, hexh, IH, hend⟩ := Z
  intro pc lo st h mc ms a n f i x hd ha hi k1 H locs cells slots LS hR hS hL hc hs
  exact kZast hx hb hK hR ha hi (kDec hd) (fun H1 sl hq z oq => k1 _ rfl H1 _ cells slots LS (kR.set hR ha hq oq) (hS.put z oq (hR _ _ ha).1) hL hc hs)
set_option maxHeartbeats 1000000 in
theorem ks_last {D : va_G} {aC : Nat → ClassId} {lw : Nat} {G : kG} {p : Program} {l : Launch} {e : Env} {R : Room} {s : State} {m : MethodId} {args : Array Value} {below : List Frame} {meth : Method} {c : Code} {Q : State → Prop} {y : Nat} {C : kCl} {P : kO → kH → Prop} {d MC MS : Nat} (Z : kZ D aC lw G p l e R s m args below meth c Q y C P d MC MS) : kc_last G y C P (kOK aC D lw y p l e R s m args below meth c Q MC MS) := by
  obtain ⟨hx, hb, hml, hown, hts, hK, hini, hroom, hexh, IH, hend⟩ := Z
  intro pc lo st h mc ms a n f i x hd ha hi k1 H locs cells slots LS hR hS hL hc hs
  exact kLast hx hb hK hR ha hi (kDec hd) (fun H1 sl hq z oq => k1 _ rfl H1 _ cells slots LS (kR.set hR ha hq oq) (hS.put z oq (hR _ _ ha).1) hL hc hs)
set_option maxHeartbeats 1000000 in
theorem ks_aast {D : va_G} {aC : Nat → ClassId} {lw : Nat} {G : kG} {p : Program} {l : Launch} {e : Env} {R : Room} {s : State} {m : MethodId} {args : Array Value} {below : List Frame} {meth : Method} {c : Code} {Q : State → Prop} {y : Nat} {C : kCl} {P : kO → kH → Prop} {d MC MS : Nat} (Z : kZ D aC lw G p l e R s m args below meth c Q y C P d MC MS) : kc_aast G y C P (kOK aC D lw y p l e R s m args below meth c Q MC MS) := by
  obtain ⟨hx, hb, hml, hown, hts, hK, hini, hroom, hexh, IH, hend⟩ := Z
  intro pc lo st h mc ms a n k v ci fs r f i hd hk ha hv hcl hi k1 H locs cells slots LS hR hS hL hc hs
  exact kAast hx hb hK hR hk ha hv hcl hi (kDec hd) (fun H1 sl hq z oq => k1 _ rfl H1 _ cells slots LS (kR.set hR ha hq oq) (hS.put z oq (hR _ _ ha).1) hL hc hs)
set_option maxHeartbeats 1000000 in
theorem ks_copyi {D : va_G} {aC : Nat → ClassId} {lw : Nat} {G : kG} {p : Program} {l : Launch} {e : Env} {R : Room} {s : State} {m : MethodId} {args : Array Value} {below : List Frame} {meth : Method} {c : Code} {Q : State → Prop} {y : Nat} {C : kCl} {P : kO → kH → Prop} {d MC MS : Nat} (Z : kZ D aC lw G p l e R s m args below meth c Q y C P d MC MS) : kc_copyi G y C P (kOK aC D lw y p l e R s m args below meth c Q MC MS) := by
  obtain ⟨hx, hb, hml, hown, hts, hK, hini, hroom, hexh, IH, hend⟩ := Z
  intro pc lo st h mc ms i a0 a n0 n1 f g sp dp n hd hm ha0 ha1 h1 h2 h3 h4 h5 hw k1 H locs cells slots LS hR hS hL hc hs
  exact kCopy hx hb hml hown hts hK hR hS hL hroom hm ha0 ha1 h1 h2 h3 h4 h5 hw (kDec hd) (fun H1 locs1 hq oq hS1 => k1 _ rfl H1 _ cells slots LS (kR.set hR ha1 hq oq) hS1 hL hc hs)
set_option maxHeartbeats 1000000 in
theorem ks_mmin {D : va_G} {aC : Nat → ClassId} {lw : Nat} {G : kG} {p : Program} {l : Launch} {e : Env} {R : Room} {s : State} {m : MethodId} {args : Array Value} {below : List Frame} {meth : Method} {c : Code} {Q : State → Prop} {y : Nat} {C : kCl} {P : kO → kH → Prop} {d MC MS : Nat} (Z : kZ D aC lw G p l e R s m args below meth c Q y C P d MC MS) : kc_mmin G y C P (kOK aC D lw y p l e R s m args below meth c Q MC MS) := by
  obtain ⟨hx, hb, hml, hown, hts, hK, hini, hroom, hexh, IH, hend⟩ := Z
  intro pc lo st h mc ms i x z hd hm hw k1 H locs cells slots LS hR hS hL hc hs
  exact kMmin hx hb hml hown hts hL hroom hm hw (Nat.le_of_add_right_le hc) (Nat.le_of_add_right_le hs) (kDec hd) (k1 H locs cells slots LS hR hS hL hc hs)
set_option maxHeartbeats 1000000 in
theorem ks_mmax {D : va_G} {aC : Nat → ClassId} {lw : Nat} {G : kG} {p : Program} {l : Launch} {e : Env} {R : Room} {s : State} {m : MethodId} {args : Array Value} {below : List Frame} {meth : Method} {c : Code} {Q : State → Prop} {y : Nat} {C : kCl} {P : kO → kH → Prop} {d MC MS : Nat} (Z : kZ D aC lw G p l e R s m args below meth c Q y C P d MC MS) : kc_mmax G y C P (kOK aC D lw y p l e R s m args below meth c Q MC MS) := by
  obtain ⟨hx, hb, hml, hown, hts, hK, hini, hroom, hexh, IH, hend⟩ := Z
  intro pc lo st h mc ms i x z hd hm hw k1 H locs cells slots LS hR hS hL hc hs
  exact kMmax hx hb hml hown hts hL hroom hm hw (Nat.le_of_add_right_le hc) (Nat.le_of_add_right_le hs) (kDec hd) (k1 H locs cells slots LS hR hS hL hc hs)
set_option maxHeartbeats 1000000 in
theorem ks_new {D : va_G} {aC : Nat → ClassId} {lw : Nat} {G : kG} {p : Program} {l : Launch} {e : Env} {R : Room} {s : State} {m : MethodId} {args : Array Value} {below : List Frame} {meth : Method} {c : Code} {Q : State → Prop} {y : Nat} {C : kCl} {P : kO → kH → Prop} {d MC MS : Nat} (Z : kZ D aC lw G p l e R s m args below meth c Q y C P d MC MS) : kc_new G y C P (kOK aC D lw y p l e R s m args below meth c Q MC MS) := by
  obtain ⟨hx, hb, hml, hown, hts, hK, hini, hroom, hexh, IH, hend⟩ := Z
  intro pc lo st h mc ms i ci N hd hf hN hmc hms k1 H locs cells slots LS hR hS hL hc hs
  exact kNewW hx hb hown hts hK hR hS hroom hf hN hmc hms hc hs (kDec hd) (fun q H1 h0 hR1 hS1 => k1 q _ h0 rfl H1 locs (cells + 1) (slots + N) LS hR1 hS1 hL (by omega) (by omega))
set_option maxHeartbeats 1000000 in
theorem ks_newi {D : va_G} {aC : Nat → ClassId} {lw : Nat} {G : kG} {p : Program} {l : Launch} {e : Env} {R : Room} {s : State} {m : MethodId} {args : Array Value} {below : List Frame} {meth : Method} {c : Code} {Q : State → Prop} {y : Nat} {C : kCl} {P : kO → kH → Prop} {d MC MS : Nat} (Z : kZ D aC lw G p l e R s m args below meth c Q y C P d MC MS) : kc_newi G y C P (kOK aC D lw y p l e R s m args below meth c Q MC MS) := by
  obtain ⟨hx, hb, hml, hown, hts, hK, hini, hroom, hexh, IH, hend⟩ := Z
  intro pc lo st h mc ms n N hd hn hN hb9 hmc hms k1 H locs cells slots LS hR hS hL hc hs
  exact kNewAi hx hb hts hK hR hS hroom hn hN hb9 hmc hms hc hs (kDec hd) (fun q H1 h0 hR1 hS1 => k1 q _ h0 rfl H1 locs (cells + 1) (slots + N) LS hR1 hS1 hL (by omega) (by omega))
set_option maxHeartbeats 1000000 in
theorem ks_newz {D : va_G} {aC : Nat → ClassId} {lw : Nat} {G : kG} {p : Program} {l : Launch} {e : Env} {R : Room} {s : State} {m : MethodId} {args : Array Value} {below : List Frame} {meth : Method} {c : Code} {Q : State → Prop} {y : Nat} {C : kCl} {P : kO → kH → Prop} {d MC MS : Nat} (Z : kZ D aC lw G p l e R s m args below meth c Q y C P d MC MS) : kc_newz G y C P (kOK aC D lw y p l e R s m args below meth c Q MC MS) := by
  obtain ⟨hx, hb, hml, hown, hts, hK, hini, hroom, hexh, IH, hend⟩ := Z
  intro pc lo st h mc ms n N hd hn hN hb9 hmc hms k1 H locs cells slots LS hR hS hL hc hs
  exact kNewAz hx hb hts hK hR hS hroom hn hN hb9 hmc hms hc hs (kDec hd) (fun q H1 h0 hR1 hS1 => k1 q _ h0 rfl H1 locs (cells + 1) (slots + N) LS hR1 hS1 hL (by omega) (by omega))
set_option maxHeartbeats 1000000 in
theorem ks_newj {D : va_G} {aC : Nat → ClassId} {lw : Nat} {G : kG} {p : Program} {l : Launch} {e : Env} {R : Room} {s : State} {m : MethodId} {args : Array Value} {below : List Frame} {meth : Method} {c : Code} {Q : State → Prop} {y : Nat} {C : kCl} {P : kO → kH → Prop} {d MC MS : Nat} (Z : kZ D aC lw G p l e R s m args below meth c Q y C P d MC MS) : kc_newj G y C P (kOK aC D lw y p l e R s m args below meth c Q MC MS) := by
  obtain ⟨hx, hb, hml, hown, hts, hK, hini, hroom, hexh, IH, hend⟩ := Z
  intro pc lo st h mc ms n N hd hn hN hb9 hmc hms k1 H locs cells slots LS hR hS hL hc hs
  exact kNewAj hx hb hts hK hR hS hroom hn hN hb9 hmc hms hc hs (kDec hd) (fun q H1 h0 hR1 hS1 => k1 q _ h0 rfl H1 locs (cells + 1) (slots + N) LS hR1 hS1 hL (by omega) (by omega))
set_option maxHeartbeats 1000000 in
theorem ks_newq {D : va_G} {aC : Nat → ClassId} {lw : Nat} {G : kG} {p : Program} {l : Launch} {e : Env} {R : Room} {s : State} {m : MethodId} {args : Array Value} {below : List Frame} {meth : Method} {c : Code} {Q : State → Prop} {y : Nat} {C : kCl} {P : kO → kH → Prop} {d MC MS : Nat} (Z : kZ D aC lw G p l e R s m args below meth c Q y C P d MC MS) : kc_newq G y C P (kOK aC D lw y p l e R s m args below meth c Q MC MS) := by
  obtain ⟨hx, hb, hml, hown, hts, hK, hini, hroom, hexh, IH, hend⟩ := Z
  intro pc lo st h mc ms i k n N hd hf hn hN hb9 hmc hms k1 H locs cells slots LS hR hS hL hc hs
  exact kNewQ hx hb hown hts hK hR hS hroom hf hn hN hb9 hmc hms hc hs (kDec hd) (fun q H1 h0 hR1 hS1 => k1 q _ h0 rfl H1 locs (cells + 1) (slots + N) LS hR1 hS1 hL (by omega) (by omega))
set_option maxHeartbeats 1000000 in
theorem ks_objinit {D : va_G} {aC : Nat → ClassId} {lw : Nat} {G : kG} {p : Program} {l : Launch} {e : Env} {R : Room} {s : State} {m : MethodId} {args : Array Value} {below : List Frame} {meth : Method} {c : Code} {Q : State → Prop} {y : Nat} {C : kCl} {P : kO → kH → Prop} {d MC MS : Nat} (Z : kZ D aC lw G p l e R s m args below meth c Q y C P d MC MS) : kc_objinit G y C P (kOK aC D lw y p l e R s m args below meth c Q MC MS) := by
  obtain ⟨hx, hb, hml, hown, hts, hK, hini, hroom, hexh, IH, hend⟩ := Z
  intro pc lo st h mc ms i a hd hm hw k1 H locs cells slots LS hR hS hL hc hs
  exact kObjI hx hb hml hown hts hL hroom hm hw (kDec hd) (k1 H locs cells slots LS hR hS hL hc hs)
set_option maxHeartbeats 1000000 in
theorem ks_calls {D : va_G} {aC : Nat → ClassId} {lw : Nat} {G : kG} {p : Program} {l : Launch} {e : Env} {R : Room} {s : State} {m : MethodId} {args : Array Value} {below : List Frame} {meth : Method} {c : Code} {Q : State → Prop} {y : Nat} {C : kCl} {P : kO → kH → Prop} {d MC MS : Nat} (Z : kZ D aC lw G p l e R s m args below meth c Q y C P d MC MS) : kc_calls G y C P (kOK aC D lw y p l e R s m args below meth c Q MC MS) := by
  obtain ⟨hx, hb, hml, hown, hts, hK, hini, hroom, hexh, IH, hend⟩ := Z
  intro pc lo st h mc ms i y1 mc1 ms1 mc2 ms2 As st0 P1 hd hm hk hn hst hw hC hno hm1 hm2 k1 H locs cells slots LS hR hS hL hc hs
  exact kCallS IH hx hb hml hown hts hK hR hS hL hroom hm hk hn hst hw hC hno hm1 hm2 hc hs (kDec hd) (fun v h1 hP H1 locs1 hR1 hS1 => k1 v h1 hP H1 locs1 (cells + mc1) (slots + ms1) LS hR1 hS1 hL (by omega) (by omega))
set_option maxHeartbeats 1000000 in
theorem ks_callv {D : va_G} {aC : Nat → ClassId} {lw : Nat} {G : kG} {p : Program} {l : Launch} {e : Env} {R : Room} {s : State} {m : MethodId} {args : Array Value} {below : List Frame} {meth : Method} {c : Code} {Q : State → Prop} {y : Nat} {C : kCl} {P : kO → kH → Prop} {d MC MS : Nat} (Z : kZ D aC lw G p l e R s m args below meth c Q y C P d MC MS) : kc_callv G y C P (kOK aC D lw y p l e R s m args below meth c Q MC MS) := by
  obtain ⟨hx, hb, hml, hown, hts, hK, hini, hroom, hexh, IH, hend⟩ := Z
  intro pc lo st h mc ms i y1 mc1 ms1 mc2 ms2 As st0 P1 a ci fs hd hm hk hn hst hAs ha hci hw hC hno hm1 hm2 k1 H locs cells slots LS hR hS hL hc hs
  exact kCallV IH hx hb hml hown hts hK hR hS hL hroom hm hk hn hst hAs ha hci hw hC hno hm1 hm2 hc hs (kDec hd) (fun v h1 hP H1 locs1 hR1 hS1 => k1 v h1 hP H1 locs1 (cells + mc1) (slots + ms1) LS hR1 hS1 hL (by omega) (by omega))
set_option maxHeartbeats 1000000 in
theorem ks_calli {D : va_G} {aC : Nat → ClassId} {lw : Nat} {G : kG} {p : Program} {l : Launch} {e : Env} {R : Room} {s : State} {m : MethodId} {args : Array Value} {below : List Frame} {meth : Method} {c : Code} {Q : State → Prop} {y : Nat} {C : kCl} {P : kO → kH → Prop} {d MC MS : Nat} (Z : kZ D aC lw G p l e R s m args below meth c Q y C P d MC MS) : kc_calli G y C P (kOK aC D lw y p l e R s m args below meth c Q MC MS) := by
  obtain ⟨hx, hb, hml, hown, hts, hK, hini, hroom, hexh, IH, hend⟩ := Z
  intro pc lo st h mc ms i y1 mc1 ms1 mc2 ms2 As st0 P1 a hd hm hk hn hst hAs hw hC hno hm1 hm2 k1 H locs cells slots LS hR hS hL hc hs
  exact kCallI IH hx hb hml hown hts hK hR hS hL hroom hm hk hn hst hAs hw hC hno hm1 hm2 hc hs (kDec hd) (fun v h1 hP H1 locs1 hR1 hS1 => k1 v h1 hP H1 locs1 (cells + mc1) (slots + ms1) LS hR1 hS1 hL (by omega) (by omega))
set_option maxHeartbeats 1000000 in
theorem ks_callx {D : va_G} {aC : Nat → ClassId} {lw : Nat} {G : kG} {p : Program} {l : Launch} {e : Env} {R : Room} {s : State} {m : MethodId} {args : Array Value} {below : List Frame} {meth : Method} {c : Code} {Q : State → Prop} {y : Nat} {C : kCl} {P : kO → kH → Prop} {d MC MS : Nat} (Z : kZ D aC lw G p l e R s m args below meth c Q y C P d MC MS) : kc_callx G y C P (kOK aC D lw y p l e R s m args below meth c Q MC MS) := by
  obtain ⟨hx, hb, hml, hown, hts, hK, hini, hroom, hexh, IH, hend⟩ := Z
  intro pc lo st h mc ms i y1 mc1 ms1 mc2 ms2 As st0 P1 a ci fs hd hm hk hn hst hAs ha hci hpl hlw hdl hw hC hm1 hm2 k1 k2 H locs cells slots LS hR hS hL hc hs
  exact kCallX IH hx hb hml hown hts hK hexh hR hS hL hroom hm hk hn hst hAs ha hci hpl hlw hdl hw hC hm1 hm2 hc hs (kDec hd) (fun v h1 hP H1 locs1 hR1 hS1 => k1 v h1 hP H1 locs1 (cells + mc1) (slots + ms1) LS hR1 hS1 hL (by omega) (by omega)) (fun E q hp h1 hP hh H1 locs1 hR1 hS1 => k2 E q hp h1 hP hh H1 locs1 (cells + mc1) (slots + ms1) LS hR1 hS1 hL (by omega) (by omega))
set_option maxHeartbeats 1000000 in
theorem ks_ireturn {D : va_G} {aC : Nat → ClassId} {lw : Nat} {G : kG} {p : Program} {l : Launch} {e : Env} {R : Room} {s : State} {m : MethodId} {args : Array Value} {below : List Frame} {meth : Method} {c : Code} {Q : State → Prop} {y : Nat} {C : kCl} {P : kO → kH → Prop} {d MC MS : Nat} (Z : kZ D aC lw G p l e R s m args below meth c Q y C P d MC MS) : kc_ireturn G y C P (kOK aC D lw y p l e R s m args below meth c Q MC MS) := by
  obtain ⟨hx, hb, hml, hown, hts, hK, hini, hroom, hexh, IH, hend⟩ := Z
  intro pc lo h mc ms x ty hd hr hn hP H locs cells slots LS hR hS hL hc hs
  exact hend.1 pc x ty h H locs cells slots LS (kDec hd) hr hn hP hR hS (Nat.le_of_add_right_le hc) (Nat.le_of_add_right_le hs)
set_option maxHeartbeats 1000000 in
theorem ks_areturn {D : va_G} {aC : Nat → ClassId} {lw : Nat} {G : kG} {p : Program} {l : Launch} {e : Env} {R : Room} {s : State} {m : MethodId} {args : Array Value} {below : List Frame} {meth : Method} {c : Code} {Q : State → Prop} {y : Nat} {C : kCl} {P : kO → kH → Prop} {d MC MS : Nat} (Z : kZ D aC lw G p l e R s m args below meth c Q y C P d MC MS) : kc_areturn G y C P (kOK aC D lw y p l e R s m args below meth c Q MC MS) := by
  obtain ⟨hx, hb, hml, hown, hts, hK, hini, hroom, hexh, IH, hend⟩ := Z
  intro pc lo h mc ms v hd hr hv hP H locs cells slots LS hR hS hL hc hs
  exact hend.2.1 pc v h H locs cells slots LS (kDec hd) hr hv hP hR hS (Nat.le_of_add_right_le hc) (Nat.le_of_add_right_le hs)
set_option maxHeartbeats 1000000 in
theorem ks_return {D : va_G} {aC : Nat → ClassId} {lw : Nat} {G : kG} {p : Program} {l : Launch} {e : Env} {R : Room} {s : State} {m : MethodId} {args : Array Value} {below : List Frame} {meth : Method} {c : Code} {Q : State → Prop} {y : Nat} {C : kCl} {P : kO → kH → Prop} {d MC MS : Nat} (Z : kZ D aC lw G p l e R s m args below meth c Q y C P d MC MS) : kc_return G y C P (kOK aC D lw y p l e R s m args below meth c Q MC MS) := by
  obtain ⟨hx, hb, hml, hown, hts, hK, hini, hroom, hexh, IH, hend⟩ := Z
  intro pc lo h mc ms hd hr hP H locs cells slots LS hR hS hL hc hs
  exact hend.2.2.1 pc h H locs cells slots LS (kDec hd) hr hP hR hS (Nat.le_of_add_right_le hc) (Nat.le_of_add_right_le hs)
set_option maxHeartbeats 1000000 in
theorem ks_throw {D : va_G} {aC : Nat → ClassId} {lw : Nat} {G : kG} {p : Program} {l : Launch} {e : Env} {R : Room} {s : State} {m : MethodId} {args : Array Value} {below : List Frame} {meth : Method} {c : Code} {Q : State → Prop} {y : Nat} {C : kCl} {P : kO → kH → Prop} {d MC MS : Nat} (Z : kZ D aC lw G p l e R s m args below meth c Q y C P d MC MS) : kc_throw G y C P (kOK aC D lw y p l e R s m args below meth c Q MC MS) := by
  obtain ⟨hx, hb, hml, hown, hts, hK, hini, hroom, hexh, IH, hend⟩ := Z
  intro pc lo st h mc ms E hd hmc hms hw hP H locs cells slots LS hR hS hL hc hs
  exact hend.2.2.2 pc E st h lo H locs cells slots LS hd hw hP hR hS hL (by omega) (by omega)
theorem ks_all {D : va_G} {aC : Nat → ClassId} {lw : Nat} {G : kG} {p : Program} {l : Launch} {e : Env} {R : Room} {s : State} {m : MethodId} {args : Array Value} {below : List Frame} {meth : Method} {c : Code} {Q : State → Prop} {y : Nat} {C : kCl} {P : kO → kH → Prop} {d MC MS : Nat} (Z : kZ D aC lw G p l e R s m args below meth c Q y C P d MC MS) : kClosed G y C P (kOK aC D lw y p l e R s m args below meth c Q MC MS) := ⟨ks_iconst Z, ks_bipush Z, ks_sipush Z, ks_null Z, ks_lconst Z, ks_ldc Z, ks_iload_n Z, ks_iload Z, ks_aload_n Z, ks_aload Z, ks_istore_n Z, ks_istore Z, ks_astore_n Z, ks_astore Z, ks_iinc Z, ks_iadd Z, ks_isub Z, ks_imul Z, ks_iand Z, ks_ior Z, ks_ixor Z, ks_idiv Z, ks_irem Z, ks_lcmp Z, ks_ineg Z, ks_i2l Z, ks_dup Z, ks_pop Z, ks_dup_x1 Z, ks_dup2 Z, ks_goto Z, ks_if_eq Z, ks_if_ne Z, ks_if_lt Z, ks_if_ge Z, ks_if_gt Z, ks_if_le Z, ks_icmp_eq Z, ks_icmp_ne Z, ks_icmp_lt Z, ks_icmp_ge Z, ks_icmp_gt Z, ks_icmp_le Z, ks_nonnull Z, ks_nonnullN Z, ks_isnull Z, ks_isnullN Z, ks_tswIn Z, ks_tswOut Z, ks_lsw Z, ks_getf Z, ks_iald Z, ks_zald Z, ks_lald Z, ks_aald Z, ks_alen Z, ks_sald Z, ks_slen Z, ks_putf Z, ks_iast Z, ks_zast Z, ks_last Z, ks_aast Z, ks_copyi Z, ks_mmin Z, ks_mmax Z, ks_new Z, ks_newi Z, ks_newz Z, ks_newj Z, ks_newq Z, ks_objinit Z, ks_calls Z, ks_callv Z, ks_calli Z, ks_callx Z, ks_ireturn Z, ks_areturn Z, ks_return Z, ks_throw Z⟩
