theorem kinc (n : Nat) : nI n + Int32.ofInt 1 = nI (n + 1) := nI_1 n
/-- what Table.valueAt answers -/
noncomputable def tbV (cols rows : Nat) (f : Nat → Int32) (k c : Int32) : Int32 := kif (vp_in k rows ∧ vp_in c cols) (f (k.toNatClampNeg * cols + c.toNatClampNeg)) 0
theorem tbIx {k c : Int32} {rows cols : Nat} (hk : vp_in k rows) (hc : vp_in c cols) (hr : rows ≤ 40) (hcs : cols ≤ 6) : vp_in (k * nI cols + c) 240 ∧ (k * nI cols + c).toNatClampNeg = k.toNatClampNeg * cols + c.toNatClampNeg := by
  obtain ⟨i, hi, rfl⟩ := vp_in_of hk (by omega)
  obtain ⟨j, hj, rfl⟩ := vp_in_of hc (by omega)
  rw [pk_mul, nI_add]
  have h1 : i * cols ≤ 39 * cols := Nat.mul_le_mul_right _ (by omega)
  have h2 : 39 * cols ≤ 39 * 6 := Nat.mul_le_mul_left _ hcs
  have hlt : i * cols + j < 240 := by omega
  refine ⟨vp_in_nI hlt (by omega), ?_⟩
  rw [nI_clamp (by omega), nI_clamp (by omega), nI_clamp (by omega)]
theorem tbV_nI {cols rows i j : Nat} {f : Nat → Int32} (hi : i < rows) (hj : j < cols) (hr : rows ≤ 40) (hcs : cols ≤ 6) : tbV cols rows f (nI i) (nI j) = f (i * cols + j) := by
  unfold tbV
  rw [kif_t ⟨vp_in_nI hi (by omega), vp_in_nI hj (by omega)⟩, nI_clamp (by omega), nI_clamp (by omega)]
/-- is column j of row k of the cells f the value v -/
def tbEq (cols : Nat) (f : Nat → Int32) (j : Nat) (v : Int32) (k : Nat) : Bool := f (k * cols + j) == v
def tbCnt (cols : Nat) (f : Nat → Int32) (j : Nat) (v : Int32) (n : Nat) : Nat := (List.range n).countP (tbEq cols f j v)
theorem tbCnt_t {cols : Nat} {f : Nat → Int32} {j : Nat} {v : Int32} {n : Nat} (h : f (n * cols + j) = v) : tbCnt cols f j v (n + 1) = tbCnt cols f j v n + 1 := by
  unfold tbCnt
  rw [List.range_succ, List.countP_append]
  simp [tbEq, h]
theorem tbCnt_f {cols : Nat} {f : Nat → Int32} {j : Nat} {v : Int32} {n : Nat} (h : ¬ f (n * cols + j) = v) : tbCnt cols f j v (n + 1) = tbCnt cols f j v n := by
  unfold tbCnt
  rw [List.range_succ, List.countP_append]
  simp [tbEq, h]
theorem tbCnt_le {cols : Nat} {f : Nat → Int32} {j : Nat} {v : Int32} {n : Nat} : tbCnt cols f j v n ≤ n := by
  unfold tbCnt
  exact Nat.le_trans List.countP_le_length (by rw [List.length_range]; exact Nat.le_refl _)
/-- the first place from k on, n places at most, where pr holds -/
def tbNx (pr : Nat → Bool) : Nat → Nat → Nat
  | 0, k => k
  | n + 1, k => if pr k then k else tbNx pr n (k + 1)
theorem tbI41 {i rows cols : Nat} (hi : i < rows) (hr : rows ≤ 40) (hcs : cols ≤ 6) : i * cols + cols ≤ 240 := by
  have h1 : i * cols ≤ 39 * cols := Nat.mul_le_mul_right _ (by omega)
  omega
theorem tbI40 {i rows cols : Nat} (hi : i < rows) (hr : rows ≤ 40) (hcs : cols ≤ 6) : i * cols < 2 ^ 31 := by
  have := tbI41 hi hr hcs
  omega
/-- the rows of a table, as lists -/
def tbRow (cols : Nat) (f : Nat → Int32) (k : Nat) : List Int32 := (List.range cols).map (fun c => f (k * cols + c))
def tbRows (cols n : Nat) (f : Nat → Int32) : List (List Int32) := (List.range n).map (tbRow cols f)
theorem tbRows_succ (cols n : Nat) (f : Nat → Int32) : tbRows cols (n + 1) f = tbRows cols n f ++ [tbRow cols f n] := by
  unfold tbRows
  rw [List.range_succ, List.map_append]
  rfl
theorem tbRow_congr {cols k k2 : Nat} {f g : Nat → Int32} (h : ∀ c, c < cols → f (k * cols + c) = g (k2 * cols + c)) : tbRow cols f k = tbRow cols g k2 := by
  unfold tbRow
  exact List.map_congr_left (fun c hc => h c (List.mem_range.mp hc))
theorem tbRows_congr {cols n : Nat} {f g : Nat → Int32} (h : ∀ k c, k < n → c < cols → f (k * cols + c) = g (k * cols + c)) : tbRows cols n f = tbRows cols n g := by
  unfold tbRows
  exact List.map_congr_left (fun k hk => tbRow_congr (fun c hc => h k c (List.mem_range.mp hk) hc))
theorem tbRow_at {cols k j : Nat} {f : Nat → Int32} (hj : j < cols) : (tbRow cols f k)[j]? = some (f (k * cols + j)) := by
  unfold tbRow
  rw [List.getElem?_map, List.getElem?_range hj]
  rfl
theorem tbIdx_lt {k n c cols : Nat} (hk : k < n) (hc : c < cols) : k * cols + c < n * cols := by
  have h1 : (k + 1) * cols ≤ n * cols := Nat.mul_le_mul_right _ hk
  rw [Nat.add_mul, Nat.one_mul] at h1
  omega
/-- the rows whose column j isn't v -/
def tbKeep (j : Nat) (v : Int32) (r : List Int32) : Bool := !(r[j]? == some v)
theorem tbKeep_row {cols k j : Nat} {f : Nat → Int32} {v : Int32} (hj : j < cols) : tbKeep j v (tbRow cols f k) = !tbEq cols f j v k := by
  unfold tbKeep tbEq
  rw [tbRow_at hj]
  simp
theorem tbCnt_keep {cols j n : Nat} {f : Nat → Int32} {v : Int32} (hj : j < cols) : ((tbRows cols n f).filter (tbKeep j v)).length + tbCnt cols f j v n = n := by
  induction n with
  | zero => rfl
  | succ n ih =>
    rw [tbRows_succ, List.filter_append, List.length_append]
    by_cases h : f (n * cols + j) = v
    · rw [tbCnt_t h]
      have : tbKeep j v (tbRow cols f n) = false := by rw [tbKeep_row hj]; simp [tbEq, h]
      simp [this]
      omega
    · rw [tbCnt_f h]
      have : tbKeep j v (tbRow cols f n) = true := by rw [tbKeep_row hj]; simp [tbEq, h]
      simp [this]
      omega
set_option maxHeartbeats 1000000 in
theorem c_hasColumn {G : kG} {d : Nat} {h : kH} {mc ms a cols xi xc xs rows srows : Nat} (ha : h a = some (kOb 4 [.int (nI cols), .ref xi, .ref xc, .ref xs, .int (nI rows), .int (nI srows)])) (hcols : cols < 2 ^ 31) (c : Int32) : kRun G (d + 1) 71 [.ref a, .int c] h mc ms (kRI h (kb (vp_in c cols))) := by
  refine ⟨⟨rfl, Nat.le_of_ble_eq_true rfl⟩, ?_⟩
  show kWP _ _ _ _ 0 [some (.ref a), some (.int c)] [] _ _ _
  refine k_iload_n (pc := 0) i_71_0 rfl ?_
  refine k_if_lt (pc := 1) (tgt := 16) i_71_1 (by decide) (fun c1 => ?_) (fun c1 => ?_)
  · refine k_iconst (pc := 16) (v := 0) i_71_16 (by decide) ?_
    exact k_ireturn (pc := 17) i_71_17 rfl rfl (kRI_of (kb_f (vp_lt0 c1)).symm)
  · refine k_iload_n (pc := 4) i_71_4 rfl ?_
    refine k_aload_n (pc := 5) i_71_5 rfl rfl ?_
    refine k_getf (pc := 6) i_71_6 f_4_9 ha rfl ?_
    refine k_icmp_ge (pc := 9) (tgt := 16) i_71_9 (by decide) (fun c2 => ?_) (fun c2 => ?_)
    · refine k_iconst (pc := 16) (v := 0) i_71_16 (by decide) ?_
      exact k_ireturn (pc := 17) i_71_17 rfl rfl (kRI_of (kb_f (vp_ge hcols c2)).symm)
    · refine k_iconst (pc := 12) (v := 1) i_71_12 (by decide) ?_
      refine k_goto (pc := 13) (tgt := 17) i_71_13 (by decide) ?_
      exact k_ireturn (pc := 17) i_71_17 rfl rfl (kRI_of (kb_t (vp_mk hcols c1 c2)).symm)
set_option maxHeartbeats 1000000 in
theorem c_hasRow {G : kG} {d : Nat} {h : kH} {mc ms a cols xi xc xs rows srows : Nat} (ha : h a = some (kOb 4 [.int (nI cols), .ref xi, .ref xc, .ref xs, .int (nI rows), .int (nI srows)])) (hrows : rows < 2 ^ 31) (c : Int32) : kRun G (d + 1) 72 [.ref a, .int c] h mc ms (kRI h (kb (vp_in c rows))) := by
  refine ⟨⟨rfl, Nat.le_of_ble_eq_true rfl⟩, ?_⟩
  show kWP _ _ _ _ 0 [some (.ref a), some (.int c)] [] _ _ _
  refine k_iload_n (pc := 0) i_72_0 rfl ?_
  refine k_if_lt (pc := 1) (tgt := 16) i_72_1 (by decide) (fun c1 => ?_) (fun c1 => ?_)
  · refine k_iconst (pc := 16) (v := 0) i_72_16 (by decide) ?_
    exact k_ireturn (pc := 17) i_72_17 rfl rfl (kRI_of (kb_f (vp_lt0 c1)).symm)
  · refine k_iload_n (pc := 4) i_72_4 rfl ?_
    refine k_aload_n (pc := 5) i_72_5 rfl rfl ?_
    refine k_getf (pc := 6) i_72_6 f_4_26 ha rfl ?_
    refine k_icmp_ge (pc := 9) (tgt := 16) i_72_9 (by decide) (fun c2 => ?_) (fun c2 => ?_)
    · refine k_iconst (pc := 16) (v := 0) i_72_16 (by decide) ?_
      exact k_ireturn (pc := 17) i_72_17 rfl rfl (kRI_of (kb_f (vp_ge hrows c2)).symm)
    · refine k_iconst (pc := 12) (v := 1) i_72_12 (by decide) ?_
      refine k_goto (pc := 13) (tgt := 17) i_72_13 (by decide) ?_
      exact k_ireturn (pc := 17) i_72_17 rfl rfl (kRI_of (kb_t (vp_mk hrows c1 c2)).symm)
set_option maxHeartbeats 1000000 in
theorem c_valueAt {G : kG} {d : Nat} {h : kH} {mc ms a cols xi xc xs rows srows : Nat} (ha : h a = some (kOb 4 [.int (nI cols), .ref xi, .ref xc, .ref xs, .int (nI rows), .int (nI srows)])) {f : Nat → Int32} (hxc : h xc = some (kAI 0 240 f)) (hr : rows ≤ 40) (hcs : cols ≤ 6) (k c : Int32) : kRun G (d + 2) 73 [.ref a, .int k, .int c] h mc ms (kRI h (tbV cols rows f k c)) := by
  refine ⟨⟨rfl, Nat.le_of_ble_eq_true rfl⟩, ?_⟩
  show kWP _ _ _ _ 0 [some (.ref a), some (.int k), some (.int c)] [] _ _ _
  refine k_aload_n (pc := 0) i_73_0 rfl rfl ?_
  refine k_iload_n (pc := 1) i_73_1 rfl ?_
  refine k_callv_i (pc := 2) (As := [.ref a, .int k]) (st := []) i_73_2 m_4_29 rfl rfl rfl rfl ha rfl (Nat.le_of_ble_eq_true rfl) (c_hasRow ha (by omega) k) ?_
  refine k_if_eq (pc := 5) (tgt := 32) i_73_5 (by decide) (fun c1 => ?_) (fun c1 => ?_)
  · refine k_iconst (pc := 32) (v := 0) i_73_32 (by decide) ?_
    exact k_ireturn (pc := 33) i_73_33 rfl rfl (kRI_of (kif_f (fun z => kb_0.mp c1 z.1)).symm)
  · refine k_aload_n (pc := 8) i_73_8 rfl rfl ?_
    refine k_iload_n (pc := 9) i_73_9 rfl ?_
    refine k_callv_i (pc := 10) (As := [.ref a, .int c]) (st := []) i_73_10 m_4_33 rfl rfl rfl rfl ha rfl (Nat.le_of_ble_eq_true rfl) (c_hasColumn ha (by omega) c) ?_
    refine k_if_eq (pc := 13) (tgt := 32) i_73_13 (by decide) (fun c2 => ?_) (fun c2 => ?_)
    · refine k_iconst (pc := 32) (v := 0) i_73_32 (by decide) ?_
      exact k_ireturn (pc := 33) i_73_33 rfl rfl (kRI_of (kif_f (fun z => kb_0.mp c2 z.2)).symm)
    · refine k_aload_n (pc := 16) i_73_16 rfl rfl ?_
      refine k_getf (pc := 17) i_73_17 f_4_19 ha rfl ?_
      refine k_iload_n (pc := 20) i_73_20 rfl ?_
      refine k_aload_n (pc := 21) i_73_21 rfl rfl ?_
      refine k_getf (pc := 22) i_73_22 f_4_9 ha rfl ?_
      refine k_imul (pc := 25) i_73_25 ?_
      refine k_iload_n (pc := 26) i_73_26 rfl ?_
      refine k_iadd (pc := 27) i_73_27 ?_
      refine k_iald (pc := 28) i_73_28 hxc (tbIx (kb_n0.mp c1) (kb_n0.mp c2) hr hcs).1 ?_
      refine k_goto (pc := 29) (tgt := 33) i_73_29 (by decide) ?_
      exact k_ireturn (pc := 33) i_73_33 rfl rfl (kRI_of (by unfold tbV; rw [kif_t ⟨kb_n0.mp c1, kb_n0.mp c2⟩, (tbIx (kb_n0.mp c1) (kb_n0.mp c2) hr hcs).2]))
theorem c_valueAtN {G : kG} {d : Nat} {h : kH} {mc ms a cols xi xc xs rows srows : Nat} (ha : h a = some (kOb 4 [.int (nI cols), .ref xi, .ref xc, .ref xs, .int (nI rows), .int (nI srows)])) {f : Nat → Int32} (hxc : h xc = some (kAI 0 240 f)) (hr : rows ≤ 40) (hcs : cols ≤ 6) {i j : Nat} (hi : i < rows) (hj : j < cols) : kRun G (d + 2) 73 [.ref a, .int (nI i), .int (nI j)] h mc ms (kRI h (f (i * cols + j))) := by
  have := c_valueAt (G := G) (d := d) (mc := mc) (ms := ms) ha hxc hr hcs (nI i) (nI j)
  rw [tbV_nI hi hj hr hcs] at this
  exact this
set_option maxHeartbeats 1000000 in
theorem c_countEqual_loop {G : kG} {d : Nat} {h : kH} {mc ms a cols xi xc xs rows srows : Nat} (ha : h a = some (kOb 4 [.int (nI cols), .ref xi, .ref xc, .ref xs, .int (nI rows), .int (nI srows)])) {f : Nat → Int32} (hxc : h xc = some (kAI 0 240 f)) (hr : rows ≤ 40) (hcs : cols ≤ 6) {j : Nat} (hj : j < cols) (v : Int32) : ∀ (n i m : Nat), i + n = rows → m = tbCnt cols f j v i → kWP G 76 (kRun G (d + 2)) (kRI h (nI (tbCnt cols f j v rows))) 5 [some (.ref a), some (.int (nI j)), some (.int v), some (.int (nI m)), some (.int (nI i))] [] h mc ms := by
  intro n
  induction n with
  | zero =>
    intro i m hi hm
    refine k_iload (pc := 5) i_76_5 rfl ?_
    refine k_aload_n (pc := 7) i_76_7 rfl rfl ?_
    refine k_getf (pc := 8) i_76_8 f_4_26 ha rfl ?_
    refine k_icmp_ge (pc := 11) (tgt := 34) i_76_11 (by decide) (fun c1 => ?_) (fun c1 => absurd (nI_le (by omega) (by omega)) c1)
    refine k_iload_n (pc := 34) i_76_34 rfl ?_
    exact k_ireturn (pc := 35) i_76_35 rfl rfl (kRI_of (by rw [hm, show i = rows by omega]))
  | succ n ih =>
    intro i m hi hm
    refine k_iload (pc := 5) i_76_5 rfl ?_
    refine k_aload_n (pc := 7) i_76_7 rfl rfl ?_
    refine k_getf (pc := 8) i_76_8 f_4_26 ha rfl ?_
    refine k_icmp_ge (pc := 11) (tgt := 34) i_76_11 (by decide) (fun c1 => absurd c1 (nI_ge (by omega) (by omega))) (fun c1 => ?_)
    refine k_aload_n (pc := 14) i_76_14 rfl rfl ?_
    refine k_iload (pc := 15) i_76_15 rfl ?_
    refine k_iload_n (pc := 17) i_76_17 rfl ?_
    refine k_callv_i (pc := 18) (As := [.ref a, .int (nI i), .int (nI j)]) (st := []) i_76_18 m_4_42 rfl rfl rfl rfl ha rfl (Nat.le_of_ble_eq_true rfl) (c_valueAtN ha hxc hr hcs (i := i) (j := j) (by omega) hj) ?_
    refine k_iload_n (pc := 21) i_76_21 rfl ?_
    refine k_icmp_ne (pc := 22) (tgt := 28) i_76_22 (by decide) (fun c2 => ?_) (fun c2 => ?_)
    · refine k_iinc (pc := 28) (v := nI (i + 1)) (lo2 := [some (.ref a), some (.int (nI j)), some (.int v), some (.int (nI m)), some (.int (nI (i + 1)))]) i_76_28 rfl (kinc i) rfl ?_
      refine k_goto (pc := 31) (tgt := 5) i_76_31 (by decide) ?_
      exact ih (i + 1) m (by omega) (by rw [hm, tbCnt_f c2])
    · refine k_iinc (pc := 25) (v := nI (m + 1)) (lo2 := [some (.ref a), some (.int (nI j)), some (.int v), some (.int (nI (m + 1))), some (.int (nI i))]) i_76_25 rfl (kinc m) rfl ?_
      refine k_iinc (pc := 28) (v := nI (i + 1)) (lo2 := [some (.ref a), some (.int (nI j)), some (.int v), some (.int (nI (m + 1))), some (.int (nI (i + 1)))]) i_76_28 rfl (kinc i) rfl ?_
      refine k_goto (pc := 31) (tgt := 5) i_76_31 (by decide) ?_
      exact ih (i + 1) (m + 1) (by omega) (by rw [hm, tbCnt_t c2])
set_option maxHeartbeats 1000000 in
theorem c_countEqual {G : kG} {d : Nat} {h : kH} {mc ms a cols xi xc xs rows srows : Nat} (ha : h a = some (kOb 4 [.int (nI cols), .ref xi, .ref xc, .ref xs, .int (nI rows), .int (nI srows)])) {f : Nat → Int32} (hxc : h xc = some (kAI 0 240 f)) (hr : rows ≤ 40) (hcs : cols ≤ 6) {j : Nat} (hj : j < cols) (v : Int32) : kRun G (d + 3) 76 [.ref a, .int (nI j), .int v] h mc ms (kRI h (nI (tbCnt cols f j v rows))) := by
  refine ⟨⟨rfl, Nat.le_of_ble_eq_true rfl⟩, ?_⟩
  show kWP _ _ _ _ 0 [some (.ref a), some (.int (nI j)), some (.int v), none, none] [] _ _ _
  refine k_iconst (pc := 0) (v := 0) i_76_0 (by decide) ?_
  refine k_istore_n (pc := 1) (lo2 := [some (.ref a), some (.int (nI j)), some (.int v), some (.int 0), none]) i_76_1 (Nat.le_of_ble_eq_true rfl) rfl ?_
  refine k_iconst (pc := 2) (v := 0) i_76_2 (by decide) ?_
  refine k_istore (pc := 3) (lo2 := [some (.ref a), some (.int (nI j)), some (.int v), some (.int 0), some (.int 0)]) i_76_3 (Nat.le_of_ble_eq_true rfl) rfl ?_
  exact c_countEqual_loop ha hxc hr hcs hj v rows 0 0 (by omega) rfl
set_option maxHeartbeats 1000000 in
theorem c_nextEqual_loop {G : kG} {d : Nat} {h : kH} {mc ms a cols xi xc xs rows srows : Nat} (ha : h a = some (kOb 4 [.int (nI cols), .ref xi, .ref xc, .ref xs, .int (nI rows), .int (nI srows)])) {f : Nat → Int32} (hxc : h xc = some (kAI 0 240 f)) (hr : rows ≤ 40) (hcs : cols ≤ 6) {j p : Nat} (hj : j < cols) (v : Int32) : ∀ (n i : Nat), i + n = rows → kWP G 77 (kRun G (d + 2)) (kRI h (nI (tbNx (tbEq cols f j v) n i))) 3 [some (.ref a), some (.int (nI p)), some (.int (nI j)), some (.int v), some (.int (nI i))] [] h mc ms := by
  intro n
  induction n with
  | zero =>
    intro i hi
    refine k_iload (pc := 3) i_77_3 rfl ?_
    refine k_aload_n (pc := 5) i_77_5 rfl rfl ?_
    refine k_getf (pc := 6) i_77_6 f_4_26 ha rfl ?_
    refine k_icmp_ge (pc := 9) (tgt := 32) i_77_9 (by decide) (fun c1 => ?_) (fun c1 => absurd (nI_le (by omega) (by omega)) c1)
    refine k_aload_n (pc := 32) i_77_32 rfl rfl ?_
    refine k_getf (pc := 33) i_77_33 f_4_26 ha rfl ?_
    exact k_ireturn (pc := 36) i_77_36 rfl rfl (kRI_of (by unfold tbNx; rw [show i = rows by omega]))
  | succ n ih =>
    intro i hi
    refine k_iload (pc := 3) i_77_3 rfl ?_
    refine k_aload_n (pc := 5) i_77_5 rfl rfl ?_
    refine k_getf (pc := 6) i_77_6 f_4_26 ha rfl ?_
    refine k_icmp_ge (pc := 9) (tgt := 32) i_77_9 (by decide) (fun c1 => absurd c1 (nI_ge (by omega) (by omega))) (fun c1 => ?_)
    refine k_aload_n (pc := 12) i_77_12 rfl rfl ?_
    refine k_iload (pc := 13) i_77_13 rfl ?_
    refine k_iload_n (pc := 15) i_77_15 rfl ?_
    refine k_callv_i (pc := 16) (As := [.ref a, .int (nI i), .int (nI j)]) (st := []) i_77_16 m_4_42 rfl rfl rfl rfl ha rfl (Nat.le_of_ble_eq_true rfl) (c_valueAtN ha hxc hr hcs (i := i) (j := j) (by omega) hj) ?_
    refine k_iload_n (pc := 19) i_77_19 rfl ?_
    refine k_icmp_ne (pc := 20) (tgt := 26) i_77_20 (by decide) (fun c2 => ?_) (fun c2 => ?_)
    · refine k_iinc (pc := 26) (v := nI (i + 1)) (lo2 := [some (.ref a), some (.int (nI p)), some (.int (nI j)), some (.int v), some (.int (nI (i + 1)))]) i_77_26 rfl (kinc i) rfl ?_
      refine k_goto (pc := 29) (tgt := 3) i_77_29 (by decide) ?_
      rw [show tbNx (tbEq cols f j v) (n + 1) i = tbNx (tbEq cols f j v) n (i + 1) by rw [tbNx, if_neg (by simp [tbEq, c2])]]
      exact ih (i + 1) (by omega)
    · refine k_iload (pc := 23) i_77_23 rfl ?_
      exact k_ireturn (pc := 25) i_77_25 rfl rfl (kRI_of (by unfold tbNx; rw [if_pos (show tbEq cols f j v i = true by simp [tbEq, c2])]))
set_option maxHeartbeats 1000000 in
theorem c_nextEqual {G : kG} {d : Nat} {h : kH} {mc ms a cols xi xc xs rows srows : Nat} (ha : h a = some (kOb 4 [.int (nI cols), .ref xi, .ref xc, .ref xs, .int (nI rows), .int (nI srows)])) {f : Nat → Int32} (hxc : h xc = some (kAI 0 240 f)) (hr : rows ≤ 40) (hcs : cols ≤ 6) {j p : Nat} (hj : j < cols) (hp : p ≤ rows) (v : Int32) : kRun G (d + 3) 77 [.ref a, .int (nI p), .int (nI j), .int v] h mc ms (kRI h (nI (tbNx (tbEq cols f j v) (rows - p) p))) := by
  refine ⟨⟨rfl, Nat.le_of_ble_eq_true rfl⟩, ?_⟩
  show kWP _ _ _ _ 0 [some (.ref a), some (.int (nI p)), some (.int (nI j)), some (.int v), none] [] _ _ _
  refine k_iload_n (pc := 0) i_77_0 rfl ?_
  refine k_istore (pc := 1) (lo2 := [some (.ref a), some (.int (nI p)), some (.int (nI j)), some (.int v), some (.int (nI p))]) i_77_1 (Nat.le_of_ble_eq_true rfl) rfl ?_
  exact c_nextEqual_loop ha hxc hr hcs hj v (rows - p) p (by omega)
set_option maxHeartbeats 1000000 in
theorem c_tbCopyRow {G : kG} {d : Nat} {h : kH} {mc ms a cols xi xc xs rows srows : Nat} (ha : h a = some (kOb 4 [.int (nI cols), .ref xi, .ref xc, .ref xs, .int (nI rows), .int (nI srows)])) {f : Nat → Int32} (hxc : h xc = some (kAI 0 240 f)) (hr : rows ≤ 40) (hcs : cols ≤ 6) {b nb i : Nat} {g : Nat → Int32} (hb : h b = some (kAI 0 nb g)) (hi : i < rows) (hnb : cols ≤ nb) (hnb2 : nb ≤ 1000) : kRun G (d + 2) 74 [.ref a, .int (nI i), .ref b] h mc ms (kRV (kset h b (kAI 0 nb (va_cpy f g (i * cols) 0 cols)))) := by
  refine ⟨⟨rfl, Nat.le_of_ble_eq_true rfl⟩, ?_⟩
  show kWP _ _ _ _ 0 [some (.ref a), some (.int (nI i)), some (.ref b)] [] _ _ _
  refine k_aload_n (pc := 0) i_74_0 rfl rfl ?_
  refine k_iload_n (pc := 1) i_74_1 rfl ?_
  refine k_callv_i (pc := 2) (As := [.ref a, .int (nI i)]) (st := []) i_74_2 m_4_29 rfl rfl rfl rfl ha rfl (Nat.le_of_ble_eq_true rfl) (c_hasRow ha (by omega) (nI i)) ?_
  refine k_if_eq (pc := 5) (tgt := 36) i_74_5 (by decide) (fun c1 => absurd (vp_in_nI hi (by omega)) (kb_0.mp c1)) (fun c1 => ?_)
  refine k_aload_n (pc := 8) i_74_8 rfl rfl ?_
  refine k_alen (pc := 9) (v := nI nb) i_74_9 hb (by decide) rfl ?_
  refine k_aload_n (pc := 10) i_74_10 rfl rfl ?_
  refine k_getf (pc := 11) i_74_11 f_4_9 ha rfl ?_
  refine k_icmp_lt (pc := 14) (tgt := 36) i_74_14 (by decide) (fun c2 => absurd c2 (nI_nlt hnb (by omega))) (fun c2 => ?_)
  refine k_aload_n (pc := 17) i_74_17 rfl rfl ?_
  refine k_getf (pc := 18) i_74_18 f_4_19 ha rfl ?_
  refine k_iload_n (pc := 21) i_74_21 rfl ?_
  refine k_aload_n (pc := 22) i_74_22 rfl rfl ?_
  refine k_getf (pc := 23) i_74_23 f_4_9 ha rfl ?_
  refine k_imul (pc := 26) i_74_26 ?_
  rw [show (nI i) * (nI cols) = nI (i * cols) from (pk_mul i cols)]
  refine k_aload_n (pc := 27) i_74_27 rfl rfl ?_
  refine k_iconst (pc := 28) (v := 0) i_74_28 (by decide) ?_
  refine k_aload_n (pc := 29) i_74_29 rfl rfl ?_
  refine k_getf (pc := 30) i_74_30 f_4_9 ha rfl ?_
  refine k_copyi (pc := 33) i_74_33 x_4_36 hxc hb (nI_pos (tbI40 hi hr hcs)) (by decide) (nI_pos (by omega)) (by rw [nI_clamp (tbI40 hi hr hcs), nI_clamp (by omega)]; exact tbI41 hi hr hcs) (by rw [nI_clamp (show cols < 2 ^ 31 by omega)]; show 0 + cols ≤ nb; omega) (Nat.le_of_ble_eq_true rfl) (fun h1 eh1 => ?_)
  exact k_return (pc := 36) i_74_36 rfl ⟨rfl, by rw [eh1, nI_clamp (tbI40 hi hr hcs), nI_clamp (show cols < 2 ^ 31 by omega)]; rfl⟩
