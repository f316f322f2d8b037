theorem kinc (n : Nat) : nI n + Int32.ofInt 1 = nI (n + 1) := nI_1 n
/-- what Table.valueAt answers -/
noncomputable def tbV (cols rows : Nat) (f : Nat → Int32) (k c : Int32) : Int32 := kif (vp_in k rows ∧ vp_in c cols) (f (k.toNatClampNeg * cols + c.toNatClampNeg)) 0
theorem tbIx {k c : Int32} {rows cols : Nat} (hk : vp_in k rows) (hc : vp_in c cols) (hr : rows ≤ 40) (hcs : cols ≤ 6) : vp_in (k * nI cols + c) 240 ∧ (k * nI cols + c).toNatClampNeg = k.toNatClampNeg * cols + c.toNatClampNeg := by
  obtain ⟨i, hi, rfl⟩ := vp_in_of hk (by omega)
  obtain ⟨j, hj, rfl⟩ := vp_in_of hc (by omega)
  rw [pk_mul, nI_add]
  have h1 : i * cols ≤ 39 * cols := Nat.mul_le_mul_right _ (by omega)
  have h2 : 39 * cols ≤ 39 * 6 := Nat.mul_le_mul_left _ hcs
  have hlt : i * cols + j < 240 := by omega
  refine ⟨vp_in_nI hlt (by omega), ?_⟩
  rw [nI_clamp (by omega), nI_clamp (by omega), nI_clamp (by omega)]
theorem tbV_nI {cols rows i j : Nat} {f : Nat → Int32} (hi : i < rows) (hj : j < cols) (hr : rows ≤ 40) (hcs : cols ≤ 6) : tbV cols rows f (nI i) (nI j) = f (i * cols + j) := by
  unfold tbV
  rw [kif_t ⟨vp_in_nI hi (by omega), vp_in_nI hj (by omega)⟩, nI_clamp (by omega), nI_clamp (by omega)]
/-- is column j of row k of the cells f the value v -/
def tbEq (cols : Nat) (f : Nat → Int32) (j : Nat) (v : Int32) (k : Nat) : Bool := f (k * cols + j) == v
def tbCnt (cols : Nat) (f : Nat → Int32) (j : Nat) (v : Int32) (n : Nat) : Nat := (List.range n).countP (tbEq cols f j v)
theorem tbCnt_t {cols : Nat} {f : Nat → Int32} {j : Nat} {v : Int32} {n : Nat} (h : f (n * cols + j) = v) : tbCnt cols f j v (n + 1) = tbCnt cols f j v n + 1 := by
  unfold tbCnt
  rw [List.range_succ, List.countP_append]
  simp [tbEq, h]
theorem tbCnt_f {cols : Nat} {f : Nat → Int32} {j : Nat} {v : Int32} {n : Nat} (h : ¬ f (n * cols + j) = v) : tbCnt cols f j v (n + 1) = tbCnt cols f j v n := by
  unfold tbCnt
  rw [List.range_succ, List.countP_append]
  simp [tbEq, h]
theorem tbCnt_le {cols : Nat} {f : Nat → Int32} {j : Nat} {v : Int32} {n : Nat} : tbCnt cols f j v n ≤ n := by
  unfold tbCnt
  exact Nat.le_trans List.countP_le_length (by rw [List.length_range]; exact Nat.le_refl _)
/-- the first place from k on, n places at most, where pr holds -/
def tbNx (pr : Nat → Bool) : Nat → Nat → Nat
  | 0, k => k
  | n + 1, k => if pr k then k else tbNx pr n (k + 1)
theorem tbI41 {i rows cols : Nat} (hi : i < rows) (hr : rows ≤ 40) (hcs : cols ≤ 6) : i * cols + cols ≤ 240 := by
  have h1 : i * cols ≤ 39 * cols := Nat.mul_le_mul_right _ (by omega)
  omega
theorem tbI40 {i rows cols : Nat} (hi : i < rows) (hr : rows ≤ 40) (hcs : cols ≤ 6) : i * cols < 2 ^ 31 := by
  have := tbI41 hi hr hcs
  omega
/-- the rows of a table, as lists -/
def tbRow (cols : Nat) (f : Nat → Int32) (k : Nat) : List Int32 := (List.range cols).map (fun c => f (k * cols + c))
def tbRows (cols n : Nat) (f : Nat → Int32) : List (List Int32) := (List.range n).map (tbRow cols f)
theorem tbRows_succ (cols n : Nat) (f : Nat → Int32) : tbRows cols (n + 1) f = tbRows cols n f ++ [tbRow cols f n] := by
  unfold tbRows
  rw [List.range_succ, List.map_append]
  rfl
theorem tbRow_congr {cols k k2 : Nat} {f g : Nat → Int32} (h : ∀ c, c < cols → f (k * cols + c) = g (k2 * cols + c)) : tbRow cols f k = tbRow cols g k2 := by
  unfold tbRow
  exact List.map_congr_left (fun c hc => h c (List.mem_range.mp hc))
theorem tbRows_congr {cols n : Nat} {f g : Nat → Int32} (h : ∀ k c, k < n → c < cols → f (k * cols + c) = g (k * cols + c)) : tbRows cols n f = tbRows cols n g := by
  unfold tbRows
  exact List.map_congr_left (fun k hk => tbRow_congr (fun c hc => h k c (List.mem_range.mp hk) hc))
theorem tbRow_at {cols k j : Nat} {f : Nat → Int32} (hj : j < cols) : (tbRow cols f k)[j]? = some (f (k * cols + j)) := by
  unfold tbRow
  rw [List.getElem?_map, List.getElem?_range hj]
  rfl
theorem tbIdx_lt {k n c cols : Nat} (hk : k < n) (hc : c < cols) : k * cols + c < n * cols := by
  have h1 : (k + 1) * cols ≤ n * cols := Nat.mul_le_mul_right _ hk
  rw [Nat.add_mul, Nat.one_mul] at h1
  omega
/-- the rows whose column j isn't v -/
def tbKeep (j : Nat) (v : Int32) (r : List Int32) : Bool := !(r[j]? == some v)
theorem tbKeep_row {cols k j : Nat} {f : Nat → Int32} {v : Int32} (hj : j < cols) : tbKeep j v (tbRow cols f k) = !tbEq cols f j v k := by
  unfold tbKeep tbEq
  rw [tbRow_at hj]
  simp
theorem tbCnt_keep {cols j n : Nat} {f : Nat → Int32} {v : Int32} (hj : j < cols) : ((tbRows cols n f).filter (tbKeep j v)).length + tbCnt cols f j v n = n := by
  induction n with
  | zero => rfl
  | succ n ih =>
    rw [tbRows_succ, List.filter_append, List.length_append]
    by_cases h : f (n * cols + j) = v
    · rw [tbCnt_t h]
      have : tbKeep j v (tbRow cols f n) = false := by rw [tbKeep_row hj]; simp [tbEq, h]
      simp [this]
      omega
    · rw [tbCnt_f h]
      have : tbKeep j v (tbRow cols f n) = true := by rw [tbKeep_row hj]; simp [tbEq, h]
      simp [this]
      omega
/-- one step of taking rows out: row i comes to place left -/
theorem tbRm_t {cols i left j : Nat} {f g : Nat → Int32} {v : Int32} (hj : j < cols) (hle : left ≤ i) (hg : tbRows cols left g = (tbRows cols i f).filter (tbKeep j v)) (hq : ∀ q, i * cols ≤ q → g q = f q) (hv : ¬ f (i * cols + j) = v) :
    tbRows cols (left + 1) (va_cpy g g (i * cols) (left * cols) cols) = (tbRows cols (i + 1) f).filter (tbKeep j v) ∧ ∀ q, (i + 1) * cols ≤ q → va_cpy g g (i * cols) (left * cols) cols q = f q := by
  have hk : tbKeep j v (tbRow cols f i) = true := by rw [tbKeep_row hj]; simp [tbEq, hv]
  have hm : left * cols ≤ i * cols := Nat.mul_le_mul_right _ hle
  refine ⟨?_, fun q h => ?_⟩
  · rw [tbRows_succ, tbRows_succ, List.filter_append, ← hg]
    congr 1
    · refine tbRows_congr (fun k c hk hc => ?_)
      exact pk_cpy_out (Or.inl (tbIdx_lt hk hc))
    · have e : tbRow cols (va_cpy g g (i * cols) (left * cols) cols) left = tbRow cols f i := by
        refine tbRow_congr (fun c hc => ?_)
        rw [pk_cpy_in (by omega) (by omega), show i * cols + (left * cols + c - left * cols) = i * cols + c by omega]
        exact hq _ (by omega)
      rw [e]
      simp [hk]
  · rw [Nat.add_mul, Nat.one_mul] at h
    rw [pk_cpy_out (Or.inr (by omega))]
    exact hq q (by omega)
theorem tbRm_f {cols i left j : Nat} {f g : Nat → Int32} {v : Int32} (hj : j < cols) (hg : tbRows cols left g = (tbRows cols i f).filter (tbKeep j v)) (hq : ∀ q, i * cols ≤ q → g q = f q) (hv : f (i * cols + j) = v) :
    tbRows cols left g = (tbRows cols (i + 1) f).filter (tbKeep j v) ∧ ∀ q, (i + 1) * cols ≤ q → g q = f q := by
  have hk : tbKeep j v (tbRow cols f i) = false := by rw [tbKeep_row hj]; simp [tbEq, hv]
  refine ⟨?_, fun q h => hq q (by rw [Nat.add_mul] at h; omega)⟩
  rw [tbRows_succ, List.filter_append, ← hg]
  simp [hk]
/-- column 'to' becomes x in the first n rows whose column j is v -/
def tbSet (cols j t n : Nat) (v x : Int32) (f : Nat → Int32) : Nat → Int32 := match n with
  | 0 => f
  | n + 1 => if tbSet cols j t n v x f (n * cols + j) = v then upd (tbSet cols j t n v x f) (n * cols + t) x else tbSet cols j t n v x f
theorem tbI43 {rows cols : Nat} (hr : rows ≤ 40) (hcs : cols ≤ 6) : 0 + rows * cols ≤ 240 := by
  have h1 : rows * cols ≤ 40 * cols := Nat.mul_le_mul_right _ hr
  omega
theorem tbI42 {rows cols : Nat} (hr : rows ≤ 40) (hcs : cols ≤ 6) : rows * cols < 2 ^ 31 := by
  have := tbI43 hr hcs
  omega
set_option maxHeartbeats 1000000 in
theorem c_hasColumn {G : kG} {d : Nat} {h : kH} {mc ms a cols xi xc xs rows srows : Nat} (ha : h a = some (kOb 4 [.int (nI cols), .ref xi, .ref xc, .ref xs, .int (nI rows), .int (nI srows)])) (hcols : cols < 2 ^ 31) (c : Int32) : kRun G (d + 1) 71 [.ref a, .int c] h mc ms (kRI h (kb (vp_in c cols))) := by
  refine ⟨⟨rfl, Nat.le_of_ble_eq_true rfl⟩, ?_⟩
  show kWP _ _ _ _ 0 [some (.ref a), some (.int c)] [] _ _ _
  refine k_iload_n (pc := 0) i_71_0 rfl ?_
  refine k_if_lt (pc := 1) (tgt := 16) i_71_1 (by decide) (fun c1 => ?_) (fun c1 => ?_)
  · refine k_iconst (pc := 16) (v := 0) i_71_16 (by decide) ?_
    exact k_ireturn (pc := 17) i_71_17 rfl rfl (kRI_of (kb_f (vp_lt0 c1)).symm)
  · refine k_iload_n (pc := 4) i_71_4 rfl ?_
    refine k_aload_n (pc := 5) i_71_5 rfl rfl ?_
    refine k_getf (pc := 6) i_71_6 f_4_9 ha rfl ?_
    refine k_icmp_ge (pc := 9) (tgt := 16) i_71_9 (by decide) (fun c2 => ?_) (fun c2 => ?_)
    · refine k_iconst (pc := 16) (v := 0) i_71_16 (by decide) ?_
      exact k_ireturn (pc := 17) i_71_17 rfl rfl (kRI_of (kb_f (vp_ge hcols c2)).symm)
    · refine k_iconst (pc := 12) (v := 1) i_71_12 (by decide) ?_
      refine k_goto (pc := 13) (tgt := 17) i_71_13 (by decide) ?_
      exact k_ireturn (pc := 17) i_71_17 rfl rfl (kRI_of (kb_t (vp_mk hcols c1 c2)).symm)
set_option maxHeartbeats 1000000 in
theorem c_hasRow {G : kG} {d : Nat} {h : kH} {mc ms a cols xi xc xs rows srows : Nat} (ha : h a = some (kOb 4 [.int (nI cols), .ref xi, .ref xc, .ref xs, .int (nI rows), .int (nI srows)])) (hrows : rows < 2 ^ 31) (c : Int32) : kRun G (d + 1) 72 [.ref a, .int c] h mc ms (kRI h (kb (vp_in c rows))) := by
  refine ⟨⟨rfl, Nat.le_of_ble_eq_true rfl⟩, ?_⟩
  show kWP _ _ _ _ 0 [some (.ref a), some (.int c)] [] _ _ _
  refine k_iload_n (pc := 0) i_72_0 rfl ?_
  refine k_if_lt (pc := 1) (tgt := 16) i_72_1 (by decide) (fun c1 => ?_) (fun c1 => ?_)
  · refine k_iconst (pc := 16) (v := 0) i_72_16 (by decide) ?_
    exact k_ireturn (pc := 17) i_72_17 rfl rfl (kRI_of (kb_f (vp_lt0 c1)).symm)
  · refine k_iload_n (pc := 4) i_72_4 rfl ?_
    refine k_aload_n (pc := 5) i_72_5 rfl rfl ?_
    refine k_getf (pc := 6) i_72_6 f_4_26 ha rfl ?_
    refine k_icmp_ge (pc := 9) (tgt := 16) i_72_9 (by decide) (fun c2 => ?_) (fun c2 => ?_)
    · refine k_iconst (pc := 16) (v := 0) i_72_16 (by decide) ?_
      exact k_ireturn (pc := 17) i_72_17 rfl rfl (kRI_of (kb_f (vp_ge hrows c2)).symm)
    · refine k_iconst (pc := 12) (v := 1) i_72_12 (by decide) ?_
      refine k_goto (pc := 13) (tgt := 17) i_72_13 (by decide) ?_
      exact k_ireturn (pc := 17) i_72_17 rfl rfl (kRI_of (kb_t (vp_mk hrows c1 c2)).symm)
set_option maxHeartbeats 1000000 in
theorem c_valueAt {G : kG} {d : Nat} {h : kH} {mc ms a cols xi xc xs rows srows : Nat} (ha : h a = some (kOb 4 [.int (nI cols), .ref xi, .ref xc, .ref xs, .int (nI rows), .int (nI srows)])) {f : Nat → Int32} (hxc : h xc = some (kAI 0 240 f)) (hr : rows ≤ 40) (hcs : cols ≤ 6) (k c : Int32) : kRun G (d + 2) 73 [.ref a, .int k, .int c] h mc ms (kRI h (tbV cols rows f k c)) := by
  refine ⟨⟨rfl, Nat.le_of_ble_eq_true rfl⟩, ?_⟩
  show kWP _ _ _ _ 0 [some (.ref a), some (.int k), some (.int c)] [] _ _ _
  refine k_aload_n (pc := 0) i_73_0 rfl rfl ?_
  refine k_iload_n (pc := 1) i_73_1 rfl ?_
  refine k_callv_i (pc := 2) (As := [.ref a, .int k]) (st := []) i_73_2 m_4_29 rfl rfl rfl rfl ha rfl (Nat.le_of_ble_eq_true rfl) (c_hasRow ha (by omega) k) ?_
  refine k_if_eq (pc := 5) (tgt := 32) i_73_5 (by decide) (fun c1 => ?_) (fun c1 => ?_)
  · refine k_iconst (pc := 32) (v := 0) i_73_32 (by decide) ?_
    exact k_ireturn (pc := 33) i_73_33 rfl rfl (kRI_of (kif_f (fun z => kb_0.mp c1 z.1)).symm)
  · refine k_aload_n (pc := 8) i_73_8 rfl rfl ?_
    refine k_iload_n (pc := 9) i_73_9 rfl ?_
    refine k_callv_i (pc := 10) (As := [.ref a, .int c]) (st := []) i_73_10 m_4_33 rfl rfl rfl rfl ha rfl (Nat.le_of_ble_eq_true rfl) (c_hasColumn ha (by omega) c) ?_
    refine k_if_eq (pc := 13) (tgt := 32) i_73_13 (by decide) (fun c2 => ?_) (fun c2 => ?_)
    · refine k_iconst (pc := 32) (v := 0) i_73_32 (by decide) ?_
      exact k_ireturn (pc := 33) i_73_33 rfl rfl (kRI_of (kif_f (fun z => kb_0.mp c2 z.2)).symm)
    · refine k_aload_n (pc := 16) i_73_16 rfl rfl ?_
      refine k_getf (pc := 17) i_73_17 f_4_19 ha rfl ?_
      refine k_iload_n (pc := 20) i_73_20 rfl ?_
      refine k_aload_n (pc := 21) i_73_21 rfl rfl ?_
      refine k_getf (pc := 22) i_73_22 f_4_9 ha rfl ?_
      refine k_imul (pc := 25) i_73_25 ?_
      refine k_iload_n (pc := 26) i_73_26 rfl ?_
      refine k_iadd (pc := 27) i_73_27 ?_
      refine k_iald (pc := 28) i_73_28 hxc (tbIx (kb_n0.mp c1) (kb_n0.mp c2) hr hcs).1 ?_
      refine k_goto (pc := 29) (tgt := 33) i_73_29 (by decide) ?_
      exact k_ireturn (pc := 33) i_73_33 rfl rfl (kRI_of (by unfold tbV; rw [kif_t ⟨kb_n0.mp c1, kb_n0.mp c2⟩, (tbIx (kb_n0.mp c1) (kb_n0.mp c2) hr hcs).2]))
theorem c_valueAtN {G : kG} {d : Nat} {h : kH} {mc ms a cols xi xc xs rows srows : Nat} (ha : h a = some (kOb 4 [.int (nI cols), .ref xi, .ref xc, .ref xs, .int (nI rows), .int (nI srows)])) {f : Nat → Int32} (hxc : h xc = some (kAI 0 240 f)) (hr : rows ≤ 40) (hcs : cols ≤ 6) {i j : Nat} (hi : i < rows) (hj : j < cols) : kRun G (d + 2) 73 [.ref a, .int (nI i), .int (nI j)] h mc ms (kRI h (f (i * cols + j))) := by
  have := c_valueAt (G := G) (d := d) (mc := mc) (ms := ms) ha hxc hr hcs (nI i) (nI j)
  rw [tbV_nI hi hj hr hcs] at this
  exact this
set_option maxHeartbeats 1000000 in
theorem c_countEqual_loop {G : kG} {d : Nat} {h : kH} {mc ms a cols xi xc xs rows srows : Nat} (ha : h a = some (kOb 4 [.int (nI cols), .ref xi, .ref xc, .ref xs, .int (nI rows), .int (nI srows)])) {f : Nat → Int32} (hxc : h xc = some (kAI 0 240 f)) (hr : rows ≤ 40) (hcs : cols ≤ 6) {j : Nat} (hj : j < cols) (v : Int32) : ∀ (n i m : Nat), i + n = rows → m = tbCnt cols f j v i → kWP G 76 (kRun G (d + 2)) (kRI h (nI (tbCnt cols f j v rows))) 5 [some (.ref a), some (.int (nI j)), some (.int v), some (.int (nI m)), some (.int (nI i))] [] h mc ms := by
  intro n
  induction n with
  | zero =>
    intro i m hi hm
    refine k_iload (pc := 5) i_76_5 rfl ?_
    refine k_aload_n (pc := 7) i_76_7 rfl rfl ?_
    refine k_getf (pc := 8) i_76_8 f_4_26 ha rfl ?_
    refine k_icmp_ge (pc := 11) (tgt := 34) i_76_11 (by decide) (fun c1 => ?_) (fun c1 => absurd (nI_le (by omega) (by omega)) c1)
    refine k_iload_n (pc := 34) i_76_34 rfl ?_
    exact k_ireturn (pc := 35) i_76_35 rfl rfl (kRI_of (by rw [hm, show i = rows by omega]))
  | succ n ih =>
    intro i m hi hm
    refine k_iload (pc := 5) i_76_5 rfl ?_
    refine k_aload_n (pc := 7) i_76_7 rfl rfl ?_
    refine k_getf (pc := 8) i_76_8 f_4_26 ha rfl ?_
    refine k_icmp_ge (pc := 11) (tgt := 34) i_76_11 (by decide) (fun c1 => absurd c1 (nI_ge (by omega) (by omega))) (fun c1 => ?_)
    refine k_aload_n (pc := 14) i_76_14 rfl rfl ?_
    refine k_iload (pc := 15) i_76_15 rfl ?_
    refine k_iload_n (pc := 17) i_76_17 rfl ?_
    refine k_callv_i (pc := 18) (As := [.ref a, .int (nI i), .int (nI j)]) (st := []) i_76_18 m_4_42 rfl rfl rfl rfl ha rfl (Nat.le_of_ble_eq_true rfl) (c_valueAtN ha hxc hr hcs (i := i) (j := j) (by omega) hj) ?_
    refine k_iload_n (pc := 21) i_76_21 rfl ?_
    refine k_icmp_ne (pc := 22) (tgt := 28) i_76_22 (by decide) (fun c2 => ?_) (fun c2 => ?_)
    · refine k_iinc (pc := 28) (v := nI (i + 1)) (lo2 := [some (.ref a), some (.int (nI j)), some (.int v), some (.int (nI m)), some (.int (nI (i + 1)))]) i_76_28 rfl (kinc i) rfl ?_
      refine k_goto (pc := 31) (tgt := 5) i_76_31 (by decide) ?_
      exact ih (i + 1) m (by omega) (by rw [hm, tbCnt_f c2])
    · refine k_iinc (pc := 25) (v := nI (m + 1)) (lo2 := [some (.ref a), some (.int (nI j)), some (.int v), some (.int (nI (m + 1))), some (.int (nI i))]) i_76_25 rfl (kinc m) rfl ?_
      refine k_iinc (pc := 28) (v := nI (i + 1)) (lo2 := [some (.ref a), some (.int (nI j)), some (.int v), some (.int (nI (m + 1))), some (.int (nI (i + 1)))]) i_76_28 rfl (kinc i) rfl ?_
      refine k_goto (pc := 31) (tgt := 5) i_76_31 (by decide) ?_
      exact ih (i + 1) (m + 1) (by omega) (by rw [hm, tbCnt_t c2])
set_option maxHeartbeats 1000000 in
theorem c_countEqual {G : kG} {d : Nat} {h : kH} {mc ms a cols xi xc xs rows srows : Nat} (ha : h a = some (kOb 4 [.int (nI cols), .ref xi, .ref xc, .ref xs, .int (nI rows), .int (nI srows)])) {f : Nat → Int32} (hxc : h xc = some (kAI 0 240 f)) (hr : rows ≤ 40) (hcs : cols ≤ 6) {j : Nat} (hj : j < cols) (v : Int32) : kRun G (d + 3) 76 [.ref a, .int (nI j), .int v] h mc ms (kRI h (nI (tbCnt cols f j v rows))) := by
  refine ⟨⟨rfl, Nat.le_of_ble_eq_true rfl⟩, ?_⟩
  show kWP _ _ _ _ 0 [some (.ref a), some (.int (nI j)), some (.int v), none, none] [] _ _ _
  refine k_iconst (pc := 0) (v := 0) i_76_0 (by decide) ?_
  refine k_istore_n (pc := 1) (lo2 := [some (.ref a), some (.int (nI j)), some (.int v), some (.int 0), none]) i_76_1 (Nat.le_of_ble_eq_true rfl) rfl ?_
  refine k_iconst (pc := 2) (v := 0) i_76_2 (by decide) ?_
  refine k_istore (pc := 3) (lo2 := [some (.ref a), some (.int (nI j)), some (.int v), some (.int 0), some (.int 0)]) i_76_3 (Nat.le_of_ble_eq_true rfl) rfl ?_
  exact c_countEqual_loop ha hxc hr hcs hj v rows 0 0 (by omega) rfl
set_option maxHeartbeats 1000000 in
theorem c_nextEqual_loop {G : kG} {d : Nat} {h : kH} {mc ms a cols xi xc xs rows srows : Nat} (ha : h a = some (kOb 4 [.int (nI cols), .ref xi, .ref xc, .ref xs, .int (nI rows), .int (nI srows)])) {f : Nat → Int32} (hxc : h xc = some (kAI 0 240 f)) (hr : rows ≤ 40) (hcs : cols ≤ 6) {j p : Nat} (hj : j < cols) (v : Int32) : ∀ (n i : Nat), i + n = rows → kWP G 77 (kRun G (d + 2)) (kRI h (nI (tbNx (tbEq cols f j v) n i))) 3 [some (.ref a), some (.int (nI p)), some (.int (nI j)), some (.int v), some (.int (nI i))] [] h mc ms := by
  intro n
  induction n with
  | zero =>
    intro i hi
    refine k_iload (pc := 3) i_77_3 rfl ?_
    refine k_aload_n (pc := 5) i_77_5 rfl rfl ?_
    refine k_getf (pc := 6) i_77_6 f_4_26 ha rfl ?_
    refine k_icmp_ge (pc := 9) (tgt := 32) i_77_9 (by decide) (fun c1 => ?_) (fun c1 => absurd (nI_le (by omega) (by omega)) c1)
    refine k_aload_n (pc := 32) i_77_32 rfl rfl ?_
    refine k_getf (pc := 33) i_77_33 f_4_26 ha rfl ?_
    exact k_ireturn (pc := 36) i_77_36 rfl rfl (kRI_of (by unfold tbNx; rw [show i = rows by omega]))
  | succ n ih =>
    intro i hi
    refine k_iload (pc := 3) i_77_3 rfl ?_
    refine k_aload_n (pc := 5) i_77_5 rfl rfl ?_
    refine k_getf (pc := 6) i_77_6 f_4_26 ha rfl ?_
    refine k_icmp_ge (pc := 9) (tgt := 32) i_77_9 (by decide) (fun c1 => absurd c1 (nI_ge (by omega) (by omega))) (fun c1 => ?_)
    refine k_aload_n (pc := 12) i_77_12 rfl rfl ?_
    refine k_iload (pc := 13) i_77_13 rfl ?_
    refine k_iload_n (pc := 15) i_77_15 rfl ?_
    refine k_callv_i (pc := 16) (As := [.ref a, .int (nI i), .int (nI j)]) (st := []) i_77_16 m_4_42 rfl rfl rfl rfl ha rfl (Nat.le_of_ble_eq_true rfl) (c_valueAtN ha hxc hr hcs (i := i) (j := j) (by omega) hj) ?_
    refine k_iload_n (pc := 19) i_77_19 rfl ?_
    refine k_icmp_ne (pc := 20) (tgt := 26) i_77_20 (by decide) (fun c2 => ?_) (fun c2 => ?_)
    · refine k_iinc (pc := 26) (v := nI (i + 1)) (lo2 := [some (.ref a), some (.int (nI p)), some (.int (nI j)), some (.int v), some (.int (nI (i + 1)))]) i_77_26 rfl (kinc i) rfl ?_
      refine k_goto (pc := 29) (tgt := 3) i_77_29 (by decide) ?_
      rw [show tbNx (tbEq cols f j v) (n + 1) i = tbNx (tbEq cols f j v) n (i + 1) by rw [tbNx, if_neg (by simp [tbEq, c2])]]
      exact ih (i + 1) (by omega)
    · refine k_iload (pc := 23) i_77_23 rfl ?_
      exact k_ireturn (pc := 25) i_77_25 rfl rfl (kRI_of (by unfold tbNx; rw [if_pos (show tbEq cols f j v i = true by simp [tbEq, c2])]))
set_option maxHeartbeats 1000000 in
theorem c_nextEqual {G : kG} {d : Nat} {h : kH} {mc ms a cols xi xc xs rows srows : Nat} (ha : h a = some (kOb 4 [.int (nI cols), .ref xi, .ref xc, .ref xs, .int (nI rows), .int (nI srows)])) {f : Nat → Int32} (hxc : h xc = some (kAI 0 240 f)) (hr : rows ≤ 40) (hcs : cols ≤ 6) {j p : Nat} (hj : j < cols) (hp : p ≤ rows) (v : Int32) : kRun G (d + 3) 77 [.ref a, .int (nI p), .int (nI j), .int v] h mc ms (kRI h (nI (tbNx (tbEq cols f j v) (rows - p) p))) := by
  refine ⟨⟨rfl, Nat.le_of_ble_eq_true rfl⟩, ?_⟩
  show kWP _ _ _ _ 0 [some (.ref a), some (.int (nI p)), some (.int (nI j)), some (.int v), none] [] _ _ _
  refine k_iload_n (pc := 0) i_77_0 rfl ?_
  refine k_istore (pc := 1) (lo2 := [some (.ref a), some (.int (nI p)), some (.int (nI j)), some (.int v), some (.int (nI p))]) i_77_1 (Nat.le_of_ble_eq_true rfl) rfl ?_
  exact c_nextEqual_loop ha hxc hr hcs hj v (rows - p) p (by omega)
set_option maxHeartbeats 1000000 in
theorem c_tbCopyRow {G : kG} {d : Nat} {h : kH} {mc ms a cols xi xc xs rows srows : Nat} (ha : h a = some (kOb 4 [.int (nI cols), .ref xi, .ref xc, .ref xs, .int (nI rows), .int (nI srows)])) {f : Nat → Int32} (hxc : h xc = some (kAI 0 240 f)) (hr : rows ≤ 40) (hcs : cols ≤ 6) {b nb i : Nat} {g : Nat → Int32} (hb : h b = some (kAI 0 nb g)) (hi : i < rows) (hnb : cols ≤ nb) (hnb2 : nb ≤ 1000) : kRun G (d + 2) 74 [.ref a, .int (nI i), .ref b] h mc ms (kRV (kset h b (kAI 0 nb (va_cpy f g (i * cols) 0 cols)))) := by
  refine ⟨⟨rfl, Nat.le_of_ble_eq_true rfl⟩, ?_⟩
  show kWP _ _ _ _ 0 [some (.ref a), some (.int (nI i)), some (.ref b)] [] _ _ _
  refine k_aload_n (pc := 0) i_74_0 rfl rfl ?_
  refine k_iload_n (pc := 1) i_74_1 rfl ?_
  refine k_callv_i (pc := 2) (As := [.ref a, .int (nI i)]) (st := []) i_74_2 m_4_29 rfl rfl rfl rfl ha rfl (Nat.le_of_ble_eq_true rfl) (c_hasRow ha (by omega) (nI i)) ?_
  refine k_if_eq (pc := 5) (tgt := 36) i_74_5 (by decide) (fun c1 => absurd (vp_in_nI hi (by omega)) (kb_0.mp c1)) (fun c1 => ?_)
  refine k_aload_n (pc := 8) i_74_8 rfl rfl ?_
  refine k_alen (pc := 9) (v := nI nb) i_74_9 hb (by decide) rfl ?_
  refine k_aload_n (pc := 10) i_74_10 rfl rfl ?_
  refine k_getf (pc := 11) i_74_11 f_4_9 ha rfl ?_
  refine k_icmp_lt (pc := 14) (tgt := 36) i_74_14 (by decide) (fun c2 => absurd c2 (nI_nlt hnb (by omega))) (fun c2 => ?_)
  refine k_aload_n (pc := 17) i_74_17 rfl rfl ?_
  refine k_getf (pc := 18) i_74_18 f_4_19 ha rfl ?_
  refine k_iload_n (pc := 21) i_74_21 rfl ?_
  refine k_aload_n (pc := 22) i_74_22 rfl rfl ?_
  refine k_getf (pc := 23) i_74_23 f_4_9 ha rfl ?_
  refine k_imul (pc := 26) i_74_26 ?_
  rw [show (nI i) * (nI cols) = nI (i * cols) from (pk_mul i cols)]
  refine k_aload_n (pc := 27) i_74_27 rfl rfl ?_
  refine k_iconst (pc := 28) (v := 0) i_74_28 (by decide) ?_
  refine k_aload_n (pc := 29) i_74_29 rfl rfl ?_
  refine k_getf (pc := 30) i_74_30 f_4_9 ha rfl ?_
  refine k_copyi (pc := 33) i_74_33 x_4_36 hxc hb (nI_pos (tbI40 hi hr hcs)) (by decide) (nI_pos (by omega)) (by rw [nI_clamp (tbI40 hi hr hcs), nI_clamp (by omega)]; exact tbI41 hi hr hcs) (by rw [nI_clamp (show cols < 2 ^ 31 by omega)]; show 0 + cols ≤ nb; omega) (Nat.le_of_ble_eq_true rfl) (fun h1 eh1 => ?_)
  exact k_return (pc := 36) i_74_36 rfl ⟨rfl, by rw [eh1, nI_clamp (tbI40 hi hr hcs), nI_clamp (show cols < 2 ^ 31 by omega)]; rfl⟩
/-- what removeEqual leaves -/
def tbRmP (h : kH) (a cols xi xc xs rows srows : Nat) (f : Nat → Int32) (j : Nat) (v : Int32) (h2 : kH) : Prop := ∃ (g : Nat → Int32) (left : Nat), h2 = kset (kset h xc (kAI 0 240 g)) a (kOb 4 [.int (nI cols), .ref xi, .ref xc, .ref xs, .int (nI left), .int (nI srows)]) ∧ left + tbCnt cols f j v rows = rows ∧ tbRows cols left g = (tbRows cols rows f).filter (tbKeep j v)
set_option maxHeartbeats 1000000 in
theorem c_removeEqual_loop {G : kG} {d : Nat} {h : kH} {mc ms a cols xi xc xs rows srows : Nat} (ha : h a = some (kOb 4 [.int (nI cols), .ref xi, .ref xc, .ref xs, .int (nI rows), .int (nI srows)])) {f : Nat → Int32} (hxc : h xc = some (kAI 0 240 f)) (hr : rows ≤ 40) (hcs : cols ≤ 6) {j : Nat} (hj : j < cols) (v : Int32) : ∀ (n i left : Nat) (g : Nat → Int32) (h1 : kH), i + n = rows → left ≤ i → h1 = kset h xc (kAI 0 240 g) → tbRows cols left g = (tbRows cols i f).filter (tbKeep j v) → (∀ q, i * cols ≤ q → g q = f q) → kWP G 78 (kRun G (d + 2)) (kRVx (tbRmP h a cols xi xc xs rows srows f j v)) 5 [some (.ref a), some (.int (nI j)), some (.int v), some (.int (nI left)), some (.int (nI i))] [] h1 mc ms := by
  intro n
  induction n with
  | zero =>
    intro i left g h1 hi hle hh1 hg hq
    have ha1 : h1 a = some (kOb 4 [.int (nI cols), .ref xi, .ref xc, .ref xs, .int (nI rows), .int (nI srows)]) := by rw [hh1, kset_ne (k_ne ha hxc (by simp))]; exact ha
    have hx1 : h1 xc = some (kAI 0 240 g) := by rw [hh1]; exact kset_self _ _ _
    refine k_iload (pc := 5) i_78_5 rfl ?_
    refine k_aload_n (pc := 7) i_78_7 rfl rfl ?_
    refine k_getf (pc := 8) i_78_8 f_4_26 ha1 rfl ?_
    refine k_icmp_ge (pc := 11) (tgt := 62) i_78_11 (by decide) (fun c1 => ?_) (fun c1 => absurd (nI_le (by omega) (by omega)) c1)
    refine k_aload_n (pc := 62) i_78_62 rfl rfl ?_
    refine k_iload_n (pc := 63) i_78_63 rfl ?_
    refine k_putf (pc := 64) (fs2 := [.int (nI cols), .ref xi, .ref xc, .ref xs, .int (nI left), .int (nI srows)]) i_78_64 f_4_26 ha1 (by decide +kernel) (Nat.le_of_ble_eq_true rfl) rfl rfl rfl (fun w1 ew1 => ?_)
    exact k_return (pc := 67) i_78_67 rfl ⟨rfl, g, left, by rw [ew1, hh1], by have := tbCnt_keep (n := rows) (f := f) (v := v) hj; rw [show rows = i by omega] at this ⊢; rw [← hg] at this; simpa [tbRows] using this, by rw [show rows = i by omega]; exact hg⟩
  | succ n ih =>
    intro i left g h1 hi hle hh1 hg hq
    have ha1 : h1 a = some (kOb 4 [.int (nI cols), .ref xi, .ref xc, .ref xs, .int (nI rows), .int (nI srows)]) := by rw [hh1, kset_ne (k_ne ha hxc (by simp))]; exact ha
    have hx1 : h1 xc = some (kAI 0 240 g) := by rw [hh1]; exact kset_self _ _ _
    have hgf : g (i * cols + j) = f (i * cols + j) := hq _ (by omega)
    refine k_iload (pc := 5) i_78_5 rfl ?_
    refine k_aload_n (pc := 7) i_78_7 rfl rfl ?_
    refine k_getf (pc := 8) i_78_8 f_4_26 ha1 rfl ?_
    refine k_icmp_ge (pc := 11) (tgt := 62) i_78_11 (by decide) (fun c1 => absurd c1 (nI_ge (by omega) (by omega))) (fun c1 => ?_)
    refine k_aload_n (pc := 14) i_78_14 rfl rfl ?_
    refine k_iload (pc := 15) i_78_15 rfl ?_
    refine k_iload_n (pc := 17) i_78_17 rfl ?_
    refine k_callv_i (pc := 18) (As := [.ref a, .int (nI i), .int (nI j)]) (st := []) i_78_18 m_4_42 rfl rfl rfl rfl ha1 rfl (Nat.le_of_ble_eq_true rfl) (c_valueAtN ha1 hx1 hr hcs (i := i) (j := j) (by omega) hj) ?_
    refine k_iload_n (pc := 21) i_78_21 rfl ?_
    refine k_icmp_eq (pc := 22) (tgt := 56) i_78_22 (by decide) (fun c2 => ?_) (fun c2 => ?_)
    · refine k_iinc (pc := 56) (v := nI (i + 1)) (lo2 := [some (.ref a), some (.int (nI j)), some (.int v), some (.int (nI left)), some (.int (nI (i + 1)))]) i_78_56 rfl (kinc i) rfl ?_
      refine k_goto (pc := 59) (tgt := 5) i_78_59 (by decide) ?_
      exact ih (i + 1) left g h1 (by omega) (by omega) hh1 (tbRm_f hj hg hq (hgf.symm.trans c2)).1 (tbRm_f hj hg hq (hgf.symm.trans c2)).2
    · refine k_aload_n (pc := 25) i_78_25 rfl rfl ?_
      refine k_getf (pc := 26) i_78_26 f_4_19 ha1 rfl ?_
      refine k_iload (pc := 29) i_78_29 rfl ?_
      refine k_aload_n (pc := 31) i_78_31 rfl rfl ?_
      refine k_getf (pc := 32) i_78_32 f_4_9 ha1 rfl ?_
      refine k_imul (pc := 35) i_78_35 ?_
      rw [show (nI i) * (nI cols) = nI (i * cols) from (pk_mul i cols)]
      refine k_aload_n (pc := 36) i_78_36 rfl rfl ?_
      refine k_getf (pc := 37) i_78_37 f_4_19 ha1 rfl ?_
      refine k_iload_n (pc := 40) i_78_40 rfl ?_
      refine k_aload_n (pc := 41) i_78_41 rfl rfl ?_
      refine k_getf (pc := 42) i_78_42 f_4_9 ha1 rfl ?_
      refine k_imul (pc := 45) i_78_45 ?_
      rw [show (nI left) * (nI cols) = nI (left * cols) from (pk_mul left cols)]
      refine k_aload_n (pc := 46) i_78_46 rfl rfl ?_
      refine k_getf (pc := 47) i_78_47 f_4_9 ha1 rfl ?_
      refine k_copyi (pc := 50) i_78_50 x_4_36 hx1 hx1 (nI_pos (tbI40 (i := i) (by omega) hr hcs)) (nI_pos (tbI40 (i := left) (by omega) hr hcs)) (nI_pos (by omega)) (by rw [nI_clamp (tbI40 (i := i) (by omega) hr hcs), nI_clamp (by omega)]; exact tbI41 (by omega) hr hcs) (by rw [nI_clamp (tbI40 (i := left) (by omega) hr hcs), nI_clamp (show cols < 2 ^ 31 by omega)]; exact tbI41 (by omega) hr hcs) (Nat.le_of_ble_eq_true rfl) (fun w1 ew1 => ?_)
      refine k_iinc (pc := 53) (v := nI (left + 1)) (lo2 := [some (.ref a), some (.int (nI j)), some (.int v), some (.int (nI (left + 1))), some (.int (nI i))]) i_78_53 rfl (kinc left) rfl ?_
      refine k_iinc (pc := 56) (v := nI (i + 1)) (lo2 := [some (.ref a), some (.int (nI j)), some (.int v), some (.int (nI (left + 1))), some (.int (nI (i + 1)))]) i_78_56 rfl (kinc i) rfl ?_
      refine k_goto (pc := 59) (tgt := 5) i_78_59 (by decide) ?_
      rw [nI_clamp (tbI40 (i := i) (by omega) hr hcs), nI_clamp (tbI40 (i := left) (by omega) hr hcs), nI_clamp (show cols < 2 ^ 31 by omega)] at ew1
      exact ih (i + 1) (left + 1) _ w1 (by omega) (by omega) (by rw [ew1, hh1, kset_kset]) (tbRm_t hj hle hg hq (fun z => c2 (hgf.trans z))).1 (tbRm_t hj hle hg hq (fun z => c2 (hgf.trans z))).2
-- removeEqual
set_option maxHeartbeats 1000000 in
theorem c_removeEqual {G : kG} {d : Nat} {h : kH} {mc ms a cols xi xc xs rows srows : Nat} (ha : h a = some (kOb 4 [.int (nI cols), .ref xi, .ref xc, .ref xs, .int (nI rows), .int (nI srows)])) {f : Nat → Int32} (hxc : h xc = some (kAI 0 240 f)) (hr : rows ≤ 40) (hcs : cols ≤ 6) {j : Nat} (hj : j < cols) (v : Int32) : kRun G (d + 3) 78 [.ref a, .int (nI j), .int v] h mc ms (kRVx (tbRmP h a cols xi xc xs rows srows f j v)) := by
  refine ⟨⟨rfl, Nat.le_of_ble_eq_true rfl⟩, ?_⟩
  show kWP _ _ _ _ 0 [some (.ref a), some (.int (nI j)), some (.int v), none, none] [] _ _ _
  refine k_iconst (pc := 0) (v := 0) i_78_0 (by decide) ?_
  refine k_istore_n (pc := 1) (lo2 := [some (.ref a), some (.int (nI j)), some (.int v), some (.int 0), none]) i_78_1 (Nat.le_of_ble_eq_true rfl) rfl ?_
  refine k_iconst (pc := 2) (v := 0) i_78_2 (by decide) ?_
  refine k_istore (pc := 3) (lo2 := [some (.ref a), some (.int (nI j)), some (.int v), some (.int 0), some (.int 0)]) i_78_3 (Nat.le_of_ble_eq_true rfl) rfl ?_
  exact c_removeEqual_loop ha hxc hr hcs hj v rows 0 0 f h (by omega) (by omega) (kset_id hxc).symm rfl (fun _ _ => rfl)
set_option maxHeartbeats 1000000 in
theorem c_addRow {G : kG} {d : Nat} {h : kH} {mc ms a cols xi xc xs rows srows : Nat} (ha : h a = some (kOb 4 [.int (nI cols), .ref xi, .ref xc, .ref xs, .int (nI rows), .int (nI srows)])) {f : Nat → Int32} (hxc : h xc = some (kAI 0 240 f)) (hr : rows ≤ 40) (hcs : cols ≤ 6) {b nb : Nat} {g : Nat → Int32} (hb : h b = some (kAI 0 nb g)) (hbx : b ≠ xc) (hlt : rows < 40) (hnb : cols ≤ nb) (hnb2 : nb ≤ 1000) : kRun G (d + 1) 75 [.ref a, .ref b] h mc ms (kRV (kset (kset h xc (kAI 0 240 (va_cpy g f 0 (rows * cols) cols))) a (kOb 4 [.int (nI cols), .ref xi, .ref xc, .ref xs, .int (nI (rows + 1)), .int (nI srows)]))) := by
  refine ⟨⟨rfl, Nat.le_of_ble_eq_true rfl⟩, ?_⟩
  show kWP _ _ _ _ 0 [some (.ref a), some (.ref b)] [] _ _ _
  refine k_aload_n (pc := 0) i_75_0 rfl rfl ?_
  refine k_getf (pc := 1) i_75_1 f_4_26 ha rfl ?_
  refine k_bipush (pc := 4) (v := 40) i_75_4 (by decide) ?_
  refine k_icmp_ge (pc := 6) (tgt := 50) i_75_6 (by decide) (fun c1 => absurd c1 (nI_ge (b := 40) hlt (by omega))) (fun c1 => ?_)
  refine k_aload_n (pc := 9) i_75_9 rfl rfl ?_
  refine k_alen (pc := 10) (v := nI nb) i_75_10 hb (by decide) rfl ?_
  refine k_aload_n (pc := 11) i_75_11 rfl rfl ?_
  refine k_getf (pc := 12) i_75_12 f_4_9 ha rfl ?_
  refine k_icmp_lt (pc := 15) (tgt := 50) i_75_15 (by decide) (fun c2 => absurd c2 (nI_nlt hnb (by omega))) (fun c2 => ?_)
  refine k_aload_n (pc := 18) i_75_18 rfl rfl ?_
  refine k_iconst (pc := 19) (v := 0) i_75_19 (by decide) ?_
  refine k_aload_n (pc := 20) i_75_20 rfl rfl ?_
  refine k_getf (pc := 21) i_75_21 f_4_19 ha rfl ?_
  refine k_aload_n (pc := 24) i_75_24 rfl rfl ?_
  refine k_getf (pc := 25) i_75_25 f_4_26 ha rfl ?_
  refine k_aload_n (pc := 28) i_75_28 rfl rfl ?_
  refine k_getf (pc := 29) i_75_29 f_4_9 ha rfl ?_
  refine k_imul (pc := 32) i_75_32 ?_
  rw [show (nI rows) * (nI cols) = nI (rows * cols) from (pk_mul rows cols)]
  refine k_aload_n (pc := 33) i_75_33 rfl rfl ?_
  refine k_getf (pc := 34) i_75_34 f_4_9 ha rfl ?_
  refine k_copyi (pc := 37) i_75_37 x_4_36 hb hxc (by decide) (nI_pos (tbI40 (rows := 40) hlt (by omega) hcs)) (nI_pos (by omega)) (by rw [nI_clamp (show cols < 2 ^ 31 by omega)]; show 0 + cols ≤ nb; omega) (by rw [nI_clamp (tbI40 (rows := 40) hlt (by omega) hcs), nI_clamp (show cols < 2 ^ 31 by omega)]; exact tbI41 (rows := 40) hlt (by omega) hcs) (Nat.le_of_ble_eq_true rfl) (fun h1 eh1 => ?_)
  have ha__h1 : h1 a = some (kOb 4 [.int (nI cols), .ref xi, .ref xc, .ref xs, .int (nI rows), .int (nI srows)]) := by rw [eh1, kset_ne (k_ne ha hxc (by simp))]; exact ha
  have hxc__h1 : h1 xc = some (kAI 0 240 (va_cpy g f (0 : Int32).toNatClampNeg (nI (rows * cols)).toNatClampNeg (nI cols).toNatClampNeg)) := by rw [eh1]; exact kset_self _ _ _
  have hb__h1 : h1 b = some (kAI 0 nb g) := by rw [eh1, kset_ne hbx]; exact hb
  refine k_aload_n (pc := 40) i_75_40 rfl rfl ?_
  refine k_dup (pc := 41) i_75_41 rfl ?_
  refine k_getf (pc := 42) i_75_42 f_4_26 ha__h1 rfl ?_
  refine k_iconst (pc := 45) (v := 1) i_75_45 (by decide) ?_
  refine k_iadd (pc := 46) i_75_46 ?_
  rw [show (nI rows) + 1 = nI (rows + 1) from (nI_1 rows)]
  refine k_putf (pc := 47) (fs2 := [.int (nI cols), .ref xi, .ref xc, .ref xs, .int (nI (rows + 1)), .int (nI srows)]) i_75_47 f_4_26 ha__h1 (by decide +kernel) (Nat.le_of_ble_eq_true rfl) rfl rfl rfl (fun h2 eh2 => ?_)
  have ha__h2 : h2 a = some (kOb 4 [.int (nI cols), .ref xi, .ref xc, .ref xs, .int (nI (rows + 1)), .int (nI srows)]) := by rw [eh2]; exact kset_self _ _ _
  have hxc__h2 : h2 xc = some (kAI 0 240 (va_cpy g f (0 : Int32).toNatClampNeg (nI (rows * cols)).toNatClampNeg (nI cols).toNatClampNeg)) := by rw [eh2, kset_ne (k_ne hxc__h1 ha__h1 (by simp))]; exact hxc__h1
  have hb__h2 : h2 b = some (kAI 0 nb g) := by rw [eh2, kset_ne (k_ne hb__h1 ha__h1 (by simp))]; exact hb__h1
  exact k_return (pc := 50) i_75_50 rfl ⟨rfl, by rw [eh2, eh1, nI_clamp (tbI40 (rows := 40) hlt (by omega) hcs), nI_clamp (show cols < 2 ^ 31 by omega)]; rfl⟩
set_option maxHeartbeats 1000000 in
theorem c_tbsave {G : kG} {d : Nat} {h : kH} {mc ms a cols xi xc xs rows srows : Nat} (ha : h a = some (kOb 4 [.int (nI cols), .ref xi, .ref xc, .ref xs, .int (nI rows), .int (nI srows)])) {f : Nat → Int32} (hxc : h xc = some (kAI 0 240 f)) (hr : rows ≤ 40) (hcs : cols ≤ 6) {g : Nat → Int32} (hxs : h xs = some (kAI 0 240 g)) (hne : xs ≠ xc) (hsr : srows ≤ 40) : kRun G (d + 1) 80 [.ref a] h mc ms (kRV (kset (kset h xs (kAI 0 240 (va_cpy f g 0 0 (rows * cols)))) a (kOb 4 [.int (nI cols), .ref xi, .ref xc, .ref xs, .int (nI rows), .int (nI rows)]))) := by
  refine ⟨⟨rfl, Nat.le_of_ble_eq_true rfl⟩, ?_⟩
  show kWP _ _ _ _ 0 [some (.ref a)] [] _ _ _
  refine k_aload_n (pc := 0) i_80_0 rfl rfl ?_
  refine k_getf (pc := 1) i_80_1 f_4_19 ha rfl ?_
  refine k_iconst (pc := 4) (v := 0) i_80_4 (by decide) ?_
  refine k_aload_n (pc := 5) i_80_5 rfl rfl ?_
  refine k_getf (pc := 6) i_80_6 f_4_23 ha rfl ?_
  refine k_iconst (pc := 9) (v := 0) i_80_9 (by decide) ?_
  refine k_aload_n (pc := 10) i_80_10 rfl rfl ?_
  refine k_getf (pc := 11) i_80_11 f_4_26 ha rfl ?_
  refine k_aload_n (pc := 14) i_80_14 rfl rfl ?_
  refine k_getf (pc := 15) i_80_15 f_4_9 ha rfl ?_
  refine k_imul (pc := 18) i_80_18 ?_
  rw [show (nI rows) * (nI cols) = nI (rows * cols) from (pk_mul rows cols)]
  refine k_copyi (pc := 19) i_80_19 x_4_36 hxc hxs (by decide) (by decide) (nI_pos (tbI42 (show rows ≤ 40 by omega) hcs)) (by rw [nI_clamp (tbI42 (show rows ≤ 40 by omega) hcs)]; exact tbI43 (show rows ≤ 40 by omega) hcs) (by rw [nI_clamp (tbI42 (show rows ≤ 40 by omega) hcs)]; exact tbI43 (show rows ≤ 40 by omega) hcs) (Nat.le_of_ble_eq_true rfl) (fun h1 eh1 => ?_)
  have ha__h1 : h1 a = some (kOb 4 [.int (nI cols), .ref xi, .ref xc, .ref xs, .int (nI rows), .int (nI srows)]) := by rw [eh1, kset_ne (k_ne ha hxs (by simp))]; exact ha
  have hxc__h1 : h1 xc = some (kAI 0 240 f) := by rw [eh1, kset_ne (Ne.symm hne)]; exact hxc
  have hxs__h1 : h1 xs = some (kAI 0 240 (va_cpy f g (0 : Int32).toNatClampNeg (0 : Int32).toNatClampNeg (nI (rows * cols)).toNatClampNeg)) := by rw [eh1]; exact kset_self _ _ _
  refine k_aload_n (pc := 22) i_80_22 rfl rfl ?_
  refine k_aload_n (pc := 23) i_80_23 rfl rfl ?_
  refine k_getf (pc := 24) i_80_24 f_4_26 ha__h1 rfl ?_
  refine k_putf (pc := 27) (fs2 := [.int (nI cols), .ref xi, .ref xc, .ref xs, .int (nI rows), .int (nI rows)]) i_80_27 f_4_46 ha__h1 (by decide +kernel) (Nat.le_of_ble_eq_true rfl) rfl rfl rfl (fun h2 eh2 => ?_)
  have ha__h2 : h2 a = some (kOb 4 [.int (nI cols), .ref xi, .ref xc, .ref xs, .int (nI rows), .int (nI rows)]) := by rw [eh2]; exact kset_self _ _ _
  have hxc__h2 : h2 xc = some (kAI 0 240 f) := by rw [eh2, kset_ne (k_ne hxc__h1 ha__h1 (by simp))]; exact hxc__h1
  have hxs__h2 : h2 xs = some (kAI 0 240 (va_cpy f g (0 : Int32).toNatClampNeg (0 : Int32).toNatClampNeg (nI (rows * cols)).toNatClampNeg)) := by rw [eh2, kset_ne (k_ne hxs__h1 ha__h1 (by simp))]; exact hxs__h1
  exact k_return (pc := 30) i_80_30 rfl ⟨rfl, by rw [eh2, eh1, nI_clamp (tbI42 (show rows ≤ 40 by omega) hcs)]; rfl⟩
set_option maxHeartbeats 1000000 in
theorem c_tbrestore {G : kG} {d : Nat} {h : kH} {mc ms a cols xi xc xs rows srows : Nat} (ha : h a = some (kOb 4 [.int (nI cols), .ref xi, .ref xc, .ref xs, .int (nI rows), .int (nI srows)])) {f : Nat → Int32} (hxc : h xc = some (kAI 0 240 f)) (hr : rows ≤ 40) (hcs : cols ≤ 6) {g : Nat → Int32} (hxs : h xs = some (kAI 0 240 g)) (hne : xs ≠ xc) (hsr : srows ≤ 40) : kRun G (d + 1) 81 [.ref a] h mc ms (kRV (kset (kset h xc (kAI 0 240 (va_cpy g f 0 0 (srows * cols)))) a (kOb 4 [.int (nI cols), .ref xi, .ref xc, .ref xs, .int (nI srows), .int (nI srows)]))) := by
  refine ⟨⟨rfl, Nat.le_of_ble_eq_true rfl⟩, ?_⟩
  show kWP _ _ _ _ 0 [some (.ref a)] [] _ _ _
  refine k_aload_n (pc := 0) i_81_0 rfl rfl ?_
  refine k_getf (pc := 1) i_81_1 f_4_23 ha rfl ?_
  refine k_iconst (pc := 4) (v := 0) i_81_4 (by decide) ?_
  refine k_aload_n (pc := 5) i_81_5 rfl rfl ?_
  refine k_getf (pc := 6) i_81_6 f_4_19 ha rfl ?_
  refine k_iconst (pc := 9) (v := 0) i_81_9 (by decide) ?_
  refine k_aload_n (pc := 10) i_81_10 rfl rfl ?_
  refine k_getf (pc := 11) i_81_11 f_4_46 ha rfl ?_
  refine k_aload_n (pc := 14) i_81_14 rfl rfl ?_
  refine k_getf (pc := 15) i_81_15 f_4_9 ha rfl ?_
  refine k_imul (pc := 18) i_81_18 ?_
  rw [show (nI srows) * (nI cols) = nI (srows * cols) from (pk_mul srows cols)]
  refine k_copyi (pc := 19) i_81_19 x_4_36 hxs hxc (by decide) (by decide) (nI_pos (tbI42 (show srows ≤ 40 by omega) hcs)) (by rw [nI_clamp (tbI42 (show srows ≤ 40 by omega) hcs)]; exact tbI43 (show srows ≤ 40 by omega) hcs) (by rw [nI_clamp (tbI42 (show srows ≤ 40 by omega) hcs)]; exact tbI43 (show srows ≤ 40 by omega) hcs) (Nat.le_of_ble_eq_true rfl) (fun h1 eh1 => ?_)
  have ha__h1 : h1 a = some (kOb 4 [.int (nI cols), .ref xi, .ref xc, .ref xs, .int (nI rows), .int (nI srows)]) := by rw [eh1, kset_ne (k_ne ha hxc (by simp))]; exact ha
  have hxc__h1 : h1 xc = some (kAI 0 240 (va_cpy g f (0 : Int32).toNatClampNeg (0 : Int32).toNatClampNeg (nI (srows * cols)).toNatClampNeg)) := by rw [eh1]; exact kset_self _ _ _
  have hxs__h1 : h1 xs = some (kAI 0 240 g) := by rw [eh1, kset_ne hne]; exact hxs
  refine k_aload_n (pc := 22) i_81_22 rfl rfl ?_
  refine k_aload_n (pc := 23) i_81_23 rfl rfl ?_
  refine k_getf (pc := 24) i_81_24 f_4_46 ha__h1 rfl ?_
  refine k_putf (pc := 27) (fs2 := [.int (nI cols), .ref xi, .ref xc, .ref xs, .int (nI srows), .int (nI srows)]) i_81_27 f_4_26 ha__h1 (by decide +kernel) (Nat.le_of_ble_eq_true rfl) rfl rfl rfl (fun h2 eh2 => ?_)
  have ha__h2 : h2 a = some (kOb 4 [.int (nI cols), .ref xi, .ref xc, .ref xs, .int (nI srows), .int (nI srows)]) := by rw [eh2]; exact kset_self _ _ _
  have hxc__h2 : h2 xc = some (kAI 0 240 (va_cpy g f (0 : Int32).toNatClampNeg (0 : Int32).toNatClampNeg (nI (srows * cols)).toNatClampNeg)) := by rw [eh2, kset_ne (k_ne hxc__h1 ha__h1 (by simp))]; exact hxc__h1
  have hxs__h2 : h2 xs = some (kAI 0 240 g) := by rw [eh2, kset_ne (k_ne hxs__h1 ha__h1 (by simp))]; exact hxs__h1
  exact k_return (pc := 30) i_81_30 rfl ⟨rfl, by rw [eh2, eh1, nI_clamp (tbI42 (show srows ≤ 40 by omega) hcs)]; rfl⟩
set_option maxHeartbeats 1000000 in
theorem c_setWhere_loop {G : kG} {d : Nat} {h : kH} {mc ms a cols xi xc xs rows srows : Nat} (ha : h a = some (kOb 4 [.int (nI cols), .ref xi, .ref xc, .ref xs, .int (nI rows), .int (nI srows)])) {f : Nat → Int32} (hxc : h xc = some (kAI 0 240 f)) (hr : rows ≤ 40) (hcs : cols ≤ 6) {j t : Nat} (hj : j < cols) (ht : t < cols) (v x : Int32) : ∀ (n i : Nat) (h1 : kH), i + n = rows → h1 = kset h xc (kAI 0 240 (tbSet cols j t i v x f)) → kWP G 79 (kRun G (d + 2)) (kRV (kset h xc (kAI 0 240 (tbSet cols j t rows v x f)))) 3 [some (.ref a), some (.int (nI j)), some (.int v), some (.int (nI t)), some (.int x), some (.int (nI i))] [] h1 mc ms := by
  intro n
  induction n with
  | zero =>
    intro i h1 hi hh1
    have ha1 : h1 a = some (kOb 4 [.int (nI cols), .ref xi, .ref xc, .ref xs, .int (nI rows), .int (nI srows)]) := by rw [hh1, kset_ne (k_ne ha hxc (by simp))]; exact ha
    refine k_iload (pc := 3) i_79_3 rfl ?_
    refine k_aload_n (pc := 5) i_79_5 rfl rfl ?_
    refine k_getf (pc := 6) i_79_6 f_4_26 ha1 rfl ?_
    refine k_icmp_ge (pc := 9) (tgt := 53) i_79_9 (by decide) (fun c1 => ?_) (fun c1 => absurd (nI_le (by omega) (by omega)) c1)
    exact k_return (pc := 53) i_79_53 rfl ⟨rfl, by rw [hh1, show i = rows by omega]⟩
  | succ n ih =>
    intro i h1 hi hh1
    have ha1 : h1 a = some (kOb 4 [.int (nI cols), .ref xi, .ref xc, .ref xs, .int (nI rows), .int (nI srows)]) := by rw [hh1, kset_ne (k_ne ha hxc (by simp))]; exact ha
    obtain ⟨g, hg⟩ : ∃ z, z = tbSet cols j t i v x f := ⟨_, rfl⟩
    have hx1 : h1 xc = some (kAI 0 240 g) := by rw [hh1, hg]; exact kset_self _ _ _
    have hvi := tbIx (vp_in_nI (show i < rows by omega) (by omega)) (vp_in_nI ht (by omega)) hr hcs
    refine k_iload (pc := 3) i_79_3 rfl ?_
    refine k_aload_n (pc := 5) i_79_5 rfl rfl ?_
    refine k_getf (pc := 6) i_79_6 f_4_26 ha1 rfl ?_
    refine k_icmp_ge (pc := 9) (tgt := 53) i_79_9 (by decide) (fun c1 => absurd c1 (nI_ge (by omega) (by omega))) (fun c1 => ?_)
    refine k_aload_n (pc := 12) i_79_12 rfl rfl ?_
    refine k_iload (pc := 13) i_79_13 rfl ?_
    refine k_iload_n (pc := 15) i_79_15 rfl ?_
    refine k_callv_i (pc := 16) (As := [.ref a, .int (nI i), .int (nI j)]) (st := []) i_79_16 m_4_42 rfl rfl rfl rfl ha1 rfl (Nat.le_of_ble_eq_true rfl) (c_valueAtN ha1 hx1 hr hcs (i := i) (j := j) (by omega) hj) ?_
    refine k_iload_n (pc := 19) i_79_19 rfl ?_
    refine k_icmp_ne (pc := 20) (tgt := 47) i_79_20 (by decide) (fun c2 => ?_) (fun c2 => ?_)
    · refine k_iinc (pc := 47) (v := nI (i + 1)) (lo2 := [some (.ref a), some (.int (nI j)), some (.int v), some (.int (nI t)), some (.int x), some (.int (nI (i + 1)))]) i_79_47 rfl (kinc i) rfl ?_
      refine k_goto (pc := 50) (tgt := 3) i_79_50 (by decide) ?_
      exact ih (i + 1) h1 (by omega) (by rw [hh1, tbSet, if_neg (by rw [← hg]; exact c2)])
    · refine k_aload_n (pc := 23) i_79_23 rfl rfl ?_
      refine k_iload_n (pc := 24) i_79_24 rfl ?_
      refine k_callv_i (pc := 25) (As := [.ref a, .int (nI t)]) (st := []) i_79_25 m_4_33 rfl rfl rfl rfl ha1 rfl (Nat.le_of_ble_eq_true rfl) (c_hasColumn ha1 (by omega) (nI t)) ?_
      refine k_if_eq (pc := 28) (tgt := 47) i_79_28 (by decide) (fun c3 => absurd (vp_in_nI ht (by omega)) (kb_0.mp c3)) (fun c3 => ?_)
      refine k_aload_n (pc := 31) i_79_31 rfl rfl ?_
      refine k_getf (pc := 32) i_79_32 f_4_19 ha1 rfl ?_
      refine k_iload (pc := 35) i_79_35 rfl ?_
      refine k_aload_n (pc := 37) i_79_37 rfl rfl ?_
      refine k_getf (pc := 38) i_79_38 f_4_9 ha1 rfl ?_
      refine k_imul (pc := 41) i_79_41 ?_
      refine k_iload_n (pc := 42) i_79_42 rfl ?_
      refine k_iadd (pc := 43) i_79_43 ?_
      refine k_iload (pc := 44) i_79_44 rfl ?_
      refine k_iast (pc := 46) i_79_46 hx1 hvi.1 (fun w1 ew1 => ?_)
      refine k_iinc (pc := 47) (v := nI (i + 1)) (lo2 := [some (.ref a), some (.int (nI j)), some (.int v), some (.int (nI t)), some (.int x), some (.int (nI (i + 1)))]) i_79_47 rfl (kinc i) rfl ?_
      refine k_goto (pc := 50) (tgt := 3) i_79_50 (by decide) ?_
      rw [hvi.2, nI_clamp (show i < 2 ^ 31 by omega), nI_clamp (show t < 2 ^ 31 by omega)] at ew1
      exact ih (i + 1) w1 (by omega) (by rw [ew1, hh1, kset_kset, tbSet, if_pos (by rw [← hg]; exact c2), hg])
set_option maxHeartbeats 1000000 in
theorem c_setWhere {G : kG} {d : Nat} {h : kH} {mc ms a cols xi xc xs rows srows : Nat} (ha : h a = some (kOb 4 [.int (nI cols), .ref xi, .ref xc, .ref xs, .int (nI rows), .int (nI srows)])) {f : Nat → Int32} (hxc : h xc = some (kAI 0 240 f)) (hr : rows ≤ 40) (hcs : cols ≤ 6) {j t : Nat} (hj : j < cols) (ht : t < cols) (v x : Int32) : kRun G (d + 3) 79 [.ref a, .int (nI j), .int v, .int (nI t), .int x] h mc ms (kRV (kset h xc (kAI 0 240 (tbSet cols j t rows v x f)))) := by
  refine ⟨⟨rfl, Nat.le_of_ble_eq_true rfl⟩, ?_⟩
  show kWP _ _ _ _ 0 [some (.ref a), some (.int (nI j)), some (.int v), some (.int (nI t)), some (.int x), none] [] _ _ _
  refine k_iconst (pc := 0) (v := 0) i_79_0 (by decide) ?_
  refine k_istore (pc := 1) (lo2 := [some (.ref a), some (.int (nI j)), some (.int v), some (.int (nI t)), some (.int x), some (.int 0)]) i_79_1 (Nat.le_of_ble_eq_true rfl) rfl ?_
  exact c_setWhere_loop ha hxc hr hcs hj ht v x rows 0 h (by omega) (kset_id hxc).symm
/-- a new table: three new arrays -/
def tbNew (h : kH) (a : Nat) (c : Int32) (h2 : kH) : Prop := ∃ xi xc xs : Nat, (h xi = none ∧ h xc = none ∧ h xs = none ∧ xi ≠ xc ∧ xi ≠ xs ∧ xc ≠ xs ∧ xi ≠ a ∧ xc ≠ a ∧ xs ≠ a) ∧ h2 a = some (kOb 4 [.int c, .ref xi, .ref xc, .ref xs, .int 0, .int 0]) ∧ h2 xi = some (kAI 1 6 (fun _ => 0)) ∧ h2 xc = some (kAI 0 240 (fun _ => 0)) ∧ h2 xs = some (kAI 0 240 (fun _ => 0)) ∧ ∀ b, b ≠ a → b ≠ xi → b ≠ xc → b ≠ xs → h2 b = h b
set_option maxHeartbeats 1000000 in
theorem c_Table_init {G : kG} {d : Nat} {h : kH} {a : Nat} (ha : h a = some (kOb 4 [.int 0, .null, .null, .null, .int 0, .int 0])) (c : Int32) : kRun G (d + 1) 70 [.ref a, .int c] h 3 486 (kRVx (tbNew h a c)) := by
  refine ⟨⟨rfl, Nat.le_of_ble_eq_true rfl⟩, ?_⟩
  show kWP _ _ _ _ 0 [some (.ref a), some (.int c)] [] _ _ _
  refine k_aload_n (pc := 0) i_70_0 rfl rfl ?_
  refine k_objinit (pc := 1) i_70_1 o_4_3 (Nat.le_of_ble_eq_true rfl) ?_
  refine k_aload_n (pc := 4) i_70_4 rfl rfl ?_
  refine k_iload_n (pc := 5) i_70_5 rfl ?_
  refine k_putf (pc := 6) (fs2 := [.int c, .null, .null, .null, .int 0, .int 0]) i_70_6 f_4_9 ha (by decide +kernel) (Nat.le_of_ble_eq_true rfl) rfl rfl rfl (fun h1 eh1 => ?_)
  have ha__h1 : h1 a = some (kOb 4 [.int c, .null, .null, .null, .int 0, .int 0]) := by rw [eh1]; exact kset_self _ _ _
  refine k_aload_n (pc := 9) i_70_9 rfl rfl ?_
  refine k_bipush (pc := 10) (v := 6) i_70_10 (by decide) ?_
  refine k_newz (pc := 12) (N := 6) i_70_12 (by decide) (by decide) (by decide) (by omega) (by omega) (fun q2 h2 nq2 eh2 => ?_)
  have ha__h2 : h2 a = some (kOb 4 [.int c, .null, .null, .null, .int 0, .int 0]) := by rw [eh2, kset_ne (k_fresh ha__h1 nq2)]; exact ha__h1
  have fq2 : h2 q2 = some (kAI 1 6 (fun _ => 0)) := by rw [eh2]; exact kset_self _ _ _
  refine k_putf (pc := 14) (fs2 := [.int c, .ref q2, .null, .null, .int 0, .int 0]) i_70_14 f_4_15 ha__h2 (by decide +kernel) (Nat.le_of_ble_eq_true rfl) rfl rfl rfl (fun h3 eh3 => ?_)
  have ha__h3 : h3 a = some (kOb 4 [.int c, .ref q2, .null, .null, .int 0, .int 0]) := by rw [eh3]; exact kset_self _ _ _
  have fq2__h3 : h3 q2 = some (kAI 1 6 (fun _ => 0)) := by rw [eh3, kset_ne (k_ne fq2 ha__h2 (by simp))]; exact fq2
  refine k_aload_n (pc := 17) i_70_17 rfl rfl ?_
  refine k_sipush (pc := 18) (v := 240) i_70_18 (by decide) ?_
  refine k_newi (pc := 21) (N := 240) i_70_21 (by decide) (by decide) (by decide) (by omega) (by omega) (fun q4 h4 nq4 eh4 => ?_)
  have ha__h4 : h4 a = some (kOb 4 [.int c, .ref q2, .null, .null, .int 0, .int 0]) := by rw [eh4, kset_ne (k_fresh ha__h3 nq4)]; exact ha__h3
  have fq2__h4 : h4 q2 = some (kAI 1 6 (fun _ => 0)) := by rw [eh4, kset_ne (k_fresh fq2__h3 nq4)]; exact fq2__h3
  have fq4 : h4 q4 = some (kAI 0 240 (fun _ => 0)) := by rw [eh4]; exact kset_self _ _ _
  refine k_putf (pc := 23) (fs2 := [.int c, .ref q2, .ref q4, .null, .int 0, .int 0]) i_70_23 f_4_19 ha__h4 (by decide +kernel) (Nat.le_of_ble_eq_true rfl) rfl rfl rfl (fun h5 eh5 => ?_)
  have ha__h5 : h5 a = some (kOb 4 [.int c, .ref q2, .ref q4, .null, .int 0, .int 0]) := by rw [eh5]; exact kset_self _ _ _
  have fq2__h5 : h5 q2 = some (kAI 1 6 (fun _ => 0)) := by rw [eh5, kset_ne (k_ne fq2__h4 ha__h4 (by simp))]; exact fq2__h4
  have fq4__h5 : h5 q4 = some (kAI 0 240 (fun _ => 0)) := by rw [eh5, kset_ne (k_ne fq4 ha__h4 (by simp))]; exact fq4
  refine k_aload_n (pc := 26) i_70_26 rfl rfl ?_
  refine k_sipush (pc := 27) (v := 240) i_70_27 (by decide) ?_
  refine k_newi (pc := 30) (N := 240) i_70_30 (by decide) (by decide) (by decide) (by omega) (by omega) (fun q6 h6 nq6 eh6 => ?_)
  have ha__h6 : h6 a = some (kOb 4 [.int c, .ref q2, .ref q4, .null, .int 0, .int 0]) := by rw [eh6, kset_ne (k_fresh ha__h5 nq6)]; exact ha__h5
  have fq2__h6 : h6 q2 = some (kAI 1 6 (fun _ => 0)) := by rw [eh6, kset_ne (k_fresh fq2__h5 nq6)]; exact fq2__h5
  have fq4__h6 : h6 q4 = some (kAI 0 240 (fun _ => 0)) := by rw [eh6, kset_ne (k_fresh fq4__h5 nq6)]; exact fq4__h5
  have fq6 : h6 q6 = some (kAI 0 240 (fun _ => 0)) := by rw [eh6]; exact kset_self _ _ _
  refine k_putf (pc := 32) (fs2 := [.int c, .ref q2, .ref q4, .ref q6, .int 0, .int 0]) i_70_32 f_4_23 ha__h6 (by decide +kernel) (Nat.le_of_ble_eq_true rfl) rfl rfl rfl (fun h7 eh7 => ?_)
  have ha__h7 : h7 a = some (kOb 4 [.int c, .ref q2, .ref q4, .ref q6, .int 0, .int 0]) := by rw [eh7]; exact kset_self _ _ _
  have fq2__h7 : h7 q2 = some (kAI 1 6 (fun _ => 0)) := by rw [eh7, kset_ne (k_ne fq2__h6 ha__h6 (by simp))]; exact fq2__h6
  have fq4__h7 : h7 q4 = some (kAI 0 240 (fun _ => 0)) := by rw [eh7, kset_ne (k_ne fq4__h6 ha__h6 (by simp))]; exact fq4__h6
  have fq6__h7 : h7 q6 = some (kAI 0 240 (fun _ => 0)) := by rw [eh7, kset_ne (k_ne fq6 ha__h6 (by simp))]; exact fq6
  exact k_return (pc := 35) i_70_35 rfl ⟨rfl, q2, q4, q6, by
    obtain ⟨z1, z2⟩ := kset_none (eh1 ▸ nq2)
    obtain ⟨y1, y2⟩ := kset_none (eh3 ▸ nq4)
    obtain ⟨y3, y4⟩ := kset_none (eh2 ▸ y2)
    obtain ⟨y5, y6⟩ := kset_none (eh1 ▸ y4)
    obtain ⟨x1, x2⟩ := kset_none (eh5 ▸ nq6)
    obtain ⟨x3, x4⟩ := kset_none (eh4 ▸ x2)
    obtain ⟨x5, x6⟩ := kset_none (eh3 ▸ x4)
    obtain ⟨x7, x8⟩ := kset_none (eh2 ▸ x6)
    obtain ⟨x9, x10⟩ := kset_none (eh1 ▸ x8)
    exact ⟨z2, y6, x10, y3.symm, x7.symm, x3.symm, z1, y1, x1⟩, ha__h7, fq2__h7, fq4__h7, fq6__h7, by
    intro b hb1 hb2 hb3 hb4
    rw [eh7, kset_ne hb1, eh6, kset_ne hb4, eh5, kset_ne hb1, eh4, kset_ne hb3, eh3, kset_ne hb1, eh2, kset_ne hb2, eh1, kset_ne hb1]⟩
