theorem kpI {o j : Nat} (h : o < 150) (hj : j < 12) : o * 12 + j < 1800 := by omega
theorem kpE {g : Nat → Int32} {i : Nat} {x : Int32} (h : g i = x) (hi : i < 2 ^ 31) : g (nI i).toNatClampNeg = x := by rw [nI_clamp hi]; exact h
/-- is the row k of the kept rows the row r -/
def kpIs (f : Nat → Int32) (o : Nat → Nat) (w : Nat) (r : Nat → Int32) (k : Nat) : Prop := ∀ c, c < w → f (o k * 12 + c) = r c
set_option maxHeartbeats 1000000 in
theorem c_kpValueAt {G : kG} {d : Nat} {h : kH} {mc ms a xc xo w n : Nat} {f g : Nat → Int32} {o : Nat → Nat} (ha : h a = some (kOb 1 [.ref xc, .ref xo, .int (nI w), .int (nI n)])) (hxc : h xc = some (kAI 0 1800 f)) (hxo : h xo = some (kAI 0 150 g)) (ho : ∀ k, k < n → g k = nI (o k) ∧ o k < 150) (hw : w ≤ 12) (hn : n ≤ 150) {i j : Nat} (hi : i < n) (hj : j < w) : kRun G (d + 1) 21 [.ref a, .int (nI i), .int (nI j)] h mc ms (kRI h (f (o i * 12 + j))) := by
  refine ⟨⟨rfl, Nat.le_of_ble_eq_true rfl⟩, ?_⟩
  show kWP _ _ _ _ 0 [some (.ref a), some (.int (nI i)), some (.int (nI j))] [] _ _ _
  refine k_iload_n (pc := 0) i_21_0 rfl ?_
  refine k_if_lt (pc := 1) (tgt := 43) i_21_1 (by decide) (fun c1 => absurd c1 (nI_pos (by omega))) (fun c1 => ?_)
  refine k_iload_n (pc := 4) i_21_4 rfl ?_
  refine k_aload_n (pc := 5) i_21_5 rfl rfl ?_
  refine k_getf (pc := 6) i_21_6 f_1_22 ha rfl ?_
  refine k_icmp_ge (pc := 9) (tgt := 43) i_21_9 (by decide) (fun c2 => absurd c2 (nI_ge hi (by omega))) (fun c2 => ?_)
  refine k_iload_n (pc := 12) i_21_12 rfl ?_
  refine k_if_lt (pc := 13) (tgt := 43) i_21_13 (by decide) (fun c3 => absurd c3 (nI_pos (by omega))) (fun c3 => ?_)
  refine k_iload_n (pc := 16) i_21_16 rfl ?_
  refine k_aload_n (pc := 17) i_21_17 rfl rfl ?_
  refine k_getf (pc := 18) i_21_18 f_1_18 ha rfl ?_
  refine k_icmp_ge (pc := 21) (tgt := 43) i_21_21 (by decide) (fun c4 => absurd c4 (nI_ge hj (by omega))) (fun c4 => ?_)
  refine k_aload_n (pc := 24) i_21_24 rfl rfl ?_
  refine k_getf (pc := 25) i_21_25 f_1_9 ha rfl ?_
  refine k_aload_n (pc := 28) i_21_28 rfl rfl ?_
  refine k_getf (pc := 29) i_21_29 f_1_15 ha rfl ?_
  refine k_iload_n (pc := 32) i_21_32 rfl ?_
  refine k_iald (pc := 33) i_21_33 hxo (vp_in_nI (by omega) (by omega)) ?_
  rw [show g (nI i).toNatClampNeg = nI (o i) from (kpE (ho i hi).1 (by omega))]
  refine k_bipush (pc := 34) (v := 12) i_21_34 (by decide) ?_
  refine k_imul (pc := 36) i_21_36 ?_
  rw [show (nI (o i)) * 12 = nI (o i * 12) from (pk_mul (o i) 12)]
  refine k_iload_n (pc := 37) i_21_37 rfl ?_
  refine k_iadd (pc := 38) i_21_38 ?_
  rw [show (nI (o i * 12)) + (nI j) = nI (o i * 12 + j) from (nI_add _ _)]
  refine k_iald (pc := 39) i_21_39 hxc (vp_in_nI (kpI (ho i hi).2 (by omega)) (by omega)) ?_
  rw [show f (nI (o i * 12 + j)).toNatClampNeg = f (o i * 12 + j) from (by rw [nI_clamp (Nat.lt_trans (kpI (ho i hi).2 (show j < 12 by omega)) (by omega))])]
  refine k_goto (pc := 40) (tgt := 44) i_21_40 (by decide) ?_
  exact k_ireturn (pc := 44) i_21_44 rfl rfl ⟨rfl, rfl⟩
set_option maxHeartbeats 1000000 in
theorem c_kpSetAt {G : kG} {d : Nat} {h : kH} {mc ms a xc xo w n : Nat} {f g : Nat → Int32} {o : Nat → Nat} (ha : h a = some (kOb 1 [.ref xc, .ref xo, .int (nI w), .int (nI n)])) (hxc : h xc = some (kAI 0 1800 f)) (hxo : h xo = some (kAI 0 150 g)) (ho : ∀ k, k < n → g k = nI (o k) ∧ o k < 150) (hw : w ≤ 12) (hn : n ≤ 150) {i j : Nat} (hi : i < n) (hj : j < w) (x : Int32) : kRun G (d + 1) 22 [.ref a, .int (nI i), .int (nI j), .int x] h mc ms (kRV (kset h xc (kAI 0 1800 (upd f (o i * 12 + j) x)))) := by
  refine ⟨⟨rfl, Nat.le_of_ble_eq_true rfl⟩, ?_⟩
  show kWP _ _ _ _ 0 [some (.ref a), some (.int (nI i)), some (.int (nI j)), some (.int x)] [] _ _ _
  refine k_iload_n (pc := 0) i_22_0 rfl ?_
  refine k_if_lt (pc := 1) (tgt := 41) i_22_1 (by decide) (fun c1 => absurd c1 (nI_pos (by omega))) (fun c1 => ?_)
  refine k_iload_n (pc := 4) i_22_4 rfl ?_
  refine k_aload_n (pc := 5) i_22_5 rfl rfl ?_
  refine k_getf (pc := 6) i_22_6 f_1_22 ha rfl ?_
  refine k_icmp_ge (pc := 9) (tgt := 41) i_22_9 (by decide) (fun c2 => absurd c2 (nI_ge hi (by omega))) (fun c2 => ?_)
  refine k_iload_n (pc := 12) i_22_12 rfl ?_
  refine k_if_lt (pc := 13) (tgt := 41) i_22_13 (by decide) (fun c3 => absurd c3 (nI_pos (by omega))) (fun c3 => ?_)
  refine k_iload_n (pc := 16) i_22_16 rfl ?_
  refine k_aload_n (pc := 17) i_22_17 rfl rfl ?_
  refine k_getf (pc := 18) i_22_18 f_1_18 ha rfl ?_
  refine k_icmp_ge (pc := 21) (tgt := 41) i_22_21 (by decide) (fun c4 => absurd c4 (nI_ge hj (by omega))) (fun c4 => ?_)
  refine k_aload_n (pc := 24) i_22_24 rfl rfl ?_
  refine k_getf (pc := 25) i_22_25 f_1_9 ha rfl ?_
  refine k_aload_n (pc := 28) i_22_28 rfl rfl ?_
  refine k_getf (pc := 29) i_22_29 f_1_15 ha rfl ?_
  refine k_iload_n (pc := 32) i_22_32 rfl ?_
  refine k_iald (pc := 33) i_22_33 hxo (vp_in_nI (by omega) (by omega)) ?_
  rw [show g (nI i).toNatClampNeg = nI (o i) from (kpE (ho i hi).1 (by omega))]
  refine k_bipush (pc := 34) (v := 12) i_22_34 (by decide) ?_
  refine k_imul (pc := 36) i_22_36 ?_
  rw [show (nI (o i)) * 12 = nI (o i * 12) from (pk_mul (o i) 12)]
  refine k_iload_n (pc := 37) i_22_37 rfl ?_
  refine k_iadd (pc := 38) i_22_38 ?_
  rw [show (nI (o i * 12)) + (nI j) = nI (o i * 12 + j) from (nI_add _ _)]
  refine k_iload_n (pc := 39) i_22_39 rfl ?_
  refine k_iast (pc := 40) i_22_40 hxc (vp_in_nI (kpI (ho i hi).2 (by omega)) (by omega)) (fun h1 eh1 => ?_)
  exact k_return (pc := 41) i_22_41 rfl ⟨rfl, by rw [eh1, nI_clamp (Nat.lt_trans (kpI (ho i hi).2 (show j < 12 by omega)) (by omega))]⟩
set_option maxHeartbeats 1000000 in
theorem c_kpCopyRow {G : kG} {d : Nat} {h : kH} {mc ms a xc xo w n : Nat} {f g : Nat → Int32} {o : Nat → Nat} (ha : h a = some (kOb 1 [.ref xc, .ref xo, .int (nI w), .int (nI n)])) (hxc : h xc = some (kAI 0 1800 f)) (hxo : h xo = some (kAI 0 150 g)) (ho : ∀ k, k < n → g k = nI (o k) ∧ o k < 150) (hw : w ≤ 12) (hn : n ≤ 150) {i b nb : Nat} {r : Nat → Int32} (hi : i < n) (hb : h b = some (kAI 0 nb r)) (hnb : w ≤ nb) (hnb2 : nb ≤ 1000) : kRun G (d + 1) 23 [.ref a, .int (nI i), .ref b] h mc ms (kRV (kset h b (kAI 0 nb (va_cpy f r (o i * 12) 0 w)))) := by
  refine ⟨⟨rfl, Nat.le_of_ble_eq_true rfl⟩, ?_⟩
  show kWP _ _ _ _ 0 [some (.ref a), some (.int (nI i)), some (.ref b)] [] _ _ _
  refine k_iload_n (pc := 0) i_23_0 rfl ?_
  refine k_if_lt (pc := 1) (tgt := 43) i_23_1 (by decide) (fun c1 => absurd c1 (nI_pos (by omega))) (fun c1 => ?_)
  refine k_iload_n (pc := 4) i_23_4 rfl ?_
  refine k_aload_n (pc := 5) i_23_5 rfl rfl ?_
  refine k_getf (pc := 6) i_23_6 f_1_22 ha rfl ?_
  refine k_icmp_ge (pc := 9) (tgt := 43) i_23_9 (by decide) (fun c2 => absurd c2 (nI_ge hi (by omega))) (fun c2 => ?_)
  refine k_aload_n (pc := 12) i_23_12 rfl rfl ?_
  refine k_alen (pc := 13) (v := nI nb) i_23_13 hb (by decide) rfl ?_
  refine k_aload_n (pc := 14) i_23_14 rfl rfl ?_
  refine k_getf (pc := 15) i_23_15 f_1_18 ha rfl ?_
  refine k_icmp_lt (pc := 18) (tgt := 43) i_23_18 (by decide) (fun c3 => absurd c3 (nI_nlt hnb (by omega))) (fun c3 => ?_)
  refine k_aload_n (pc := 21) i_23_21 rfl rfl ?_
  refine k_getf (pc := 22) i_23_22 f_1_9 ha rfl ?_
  refine k_aload_n (pc := 25) i_23_25 rfl rfl ?_
  refine k_getf (pc := 26) i_23_26 f_1_15 ha rfl ?_
  refine k_iload_n (pc := 29) i_23_29 rfl ?_
  refine k_iald (pc := 30) i_23_30 hxo (vp_in_nI (by omega) (by omega)) ?_
  rw [show g (nI i).toNatClampNeg = nI (o i) from (kpE (ho i hi).1 (by omega))]
  refine k_bipush (pc := 31) (v := 12) i_23_31 (by decide) ?_
  refine k_imul (pc := 33) i_23_33 ?_
  rw [show (nI (o i)) * 12 = nI (o i * 12) from (pk_mul (o i) 12)]
  refine k_aload_n (pc := 34) i_23_34 rfl rfl ?_
  refine k_iconst (pc := 35) (v := 0) i_23_35 (by decide) ?_
  refine k_aload_n (pc := 36) i_23_36 rfl rfl ?_
  refine k_getf (pc := 37) i_23_37 f_1_18 ha rfl ?_
  refine k_copyi (pc := 40) i_23_40 x_1_25 hxc hb (nI_pos (by have := (ho i hi).2; omega)) (by decide) (nI_pos (by omega)) (by rw [nI_clamp (by have := (ho i hi).2; omega), nI_clamp (by omega)]; have := (ho i hi).2; omega) (by rw [nI_clamp (show w < 2 ^ 31 by omega)]; show 0 + w ≤ nb; omega) (Nat.le_of_ble_eq_true rfl) (fun h1 eh1 => ?_)
  exact k_return (pc := 43) i_23_43 rfl ⟨rfl, by rw [eh1, nI_clamp (by have := (ho i hi).2; omega), nI_clamp (show w < 2 ^ 31 by omega)]; rfl⟩
set_option maxHeartbeats 1000000 in
theorem c_kpIsLater {G : kG} {d : Nat} {h : kH} {mc ms : Nat} (x z t : Int32) : kRun G (d + 1) 26 [.int x, .int z, .int t] h mc ms (kRI h (kb ((t = 1 ∧ x < z) ∨ (¬ t = 1 ∧ z < x)))) := by
  refine ⟨⟨rfl, Nat.le_of_ble_eq_true rfl⟩, ?_⟩
  show kWP _ _ _ _ 0 [some (.int x), some (.int z), some (.int t)] [] _ _ _
  refine k_iload_n (pc := 0) i_26_0 rfl ?_
  refine k_iconst (pc := 1) (v := 1) i_26_1 (by decide) ?_
  refine k_icmp_ne (pc := 2) (tgt := 18) i_26_2 (by decide) (fun c1 => ?_) (fun c1 => ?_)
  · refine k_iload_n (pc := 18) i_26_18 rfl ?_
    refine k_iload_n (pc := 19) i_26_19 rfl ?_
    refine k_icmp_le (pc := 20) (tgt := 27) i_26_20 (by decide) (fun c2 => ?_) (fun c2 => ?_)
    · refine k_iconst (pc := 27) (v := 0) i_26_27 (by decide) ?_
      exact k_ireturn (pc := 28) i_26_28 rfl rfl (kRI_of (kb_f (by rintro (⟨q, -⟩ | ⟨-, q⟩); exact c1 q; exact absurd (Int32.lt_of_lt_of_le q c2) (Int32.lt_irrefl _))).symm)
    · refine k_iconst (pc := 23) (v := 1) i_26_23 (by decide) ?_
      refine k_goto (pc := 24) (tgt := 28) i_26_24 (by decide) ?_
      exact k_ireturn (pc := 28) i_26_28 rfl rfl (kRI_of (kb_t (Or.inr ⟨c1, Int32.not_le.mp c2⟩)).symm)
  · refine k_iload_n (pc := 5) i_26_5 rfl ?_
    refine k_iload_n (pc := 6) i_26_6 rfl ?_
    refine k_icmp_ge (pc := 7) (tgt := 14) i_26_7 (by decide) (fun c3 => ?_) (fun c3 => ?_)
    · refine k_iconst (pc := 14) (v := 0) i_26_14 (by decide) ?_
      refine k_goto (pc := 15) (tgt := 28) i_26_15 (by decide) ?_
      exact k_ireturn (pc := 28) i_26_28 rfl rfl (kRI_of (kb_f (by rintro (⟨-, q⟩ | ⟨q, -⟩); exact absurd (Int32.lt_of_lt_of_le q c2) (Int32.lt_irrefl _); exact q c1)).symm)
    · refine k_iconst (pc := 10) (v := 1) i_26_10 (by decide) ?_
      refine k_goto (pc := 11) (tgt := 28) i_26_11 (by decide) ?_
      exact k_ireturn (pc := 28) i_26_28 rfl rfl (kRI_of (kb_t (Or.inl ⟨c1, Int32.not_le.mp c2⟩)).symm)
set_option maxHeartbeats 1000000 in
theorem c_kpAdd {G : kG} {d : Nat} {h : kH} {mc ms a xc xo w n : Nat} {f g : Nat → Int32} {o : Nat → Nat} (ha : h a = some (kOb 1 [.ref xc, .ref xo, .int (nI w), .int (nI n)])) (hxc : h xc = some (kAI 0 1800 f)) (hxo : h xo = some (kAI 0 150 g)) (ho : ∀ k, k < n → g k = nI (o k) ∧ o k < 150) (hw : w ≤ 12) (hn : n ≤ 150) {b nb : Nat} {r : Nat → Int32} (hb : h b = some (kAI 0 nb r)) (hnb : w ≤ nb) (hnb2 : nb ≤ 1000) (hbc : b ≠ xc) (hbo : b ≠ xo) (hlt : n < 150) : kRun G (d + 1) 24 [.ref a, .ref b] h mc ms (kRIx 1 (fun h2 => h2 = kset (kset (kset h xc (kAI 0 1800 (va_cpy r f 0 (n * 12) w))) xo (kAI 0 150 (upd g n (nI n)))) a (kOb 1 [.ref xc, .ref xo, .int (nI w), .int (nI (n + 1))]))) := by
  refine ⟨⟨rfl, Nat.le_of_ble_eq_true rfl⟩, ?_⟩
  show kWP _ _ _ _ 0 [some (.ref a), some (.ref b)] [] _ _ _
  refine k_aload_n (pc := 0) i_24_0 rfl rfl ?_
  refine k_getf (pc := 1) i_24_1 f_1_22 ha rfl ?_
  refine k_sipush (pc := 4) (v := 150) i_24_4 (by decide) ?_
  refine k_icmp_ge (pc := 7) (tgt := 19) i_24_7 (by decide) (fun c1 => absurd c1 (nI_ge (b := 150) hlt (by omega))) (fun c1 => ?_)
  refine k_aload_n (pc := 10) i_24_10 rfl rfl ?_
  refine k_alen (pc := 11) (v := nI nb) i_24_11 hb (by decide) rfl ?_
  refine k_aload_n (pc := 12) i_24_12 rfl rfl ?_
  refine k_getf (pc := 13) i_24_13 f_1_18 ha rfl ?_
  refine k_icmp_ge (pc := 16) (tgt := 21) i_24_16 (by decide) (fun c2 => ?_) (fun c2 => absurd (nI_le hnb (by omega)) c2)
  refine k_aload_n (pc := 21) i_24_21 rfl rfl ?_
  refine k_iconst (pc := 22) (v := 0) i_24_22 (by decide) ?_
  refine k_aload_n (pc := 23) i_24_23 rfl rfl ?_
  refine k_getf (pc := 24) i_24_24 f_1_9 ha rfl ?_
  refine k_aload_n (pc := 27) i_24_27 rfl rfl ?_
  refine k_getf (pc := 28) i_24_28 f_1_22 ha rfl ?_
  refine k_bipush (pc := 31) (v := 12) i_24_31 (by decide) ?_
  refine k_imul (pc := 33) i_24_33 ?_
  rw [show (nI n) * 12 = nI (n * 12) from (pk_mul n 12)]
  refine k_aload_n (pc := 34) i_24_34 rfl rfl ?_
  refine k_getf (pc := 35) i_24_35 f_1_18 ha rfl ?_
  refine k_copyi (pc := 38) i_24_38 x_1_25 hb hxc (by decide) (nI_pos (by omega)) (nI_pos (by omega)) (by rw [nI_clamp (show w < 2 ^ 31 by omega)]; show 0 + w ≤ nb; omega) (by rw [nI_clamp (by omega), nI_clamp (by omega)]; omega) (Nat.le_of_ble_eq_true rfl) (fun h1 eh1 => ?_)
  have ha__h1 : h1 a = some (kOb 1 [.ref xc, .ref xo, .int (nI w), .int (nI n)]) := by rw [eh1, kset_ne (k_ne ha hxc (by simp))]; exact ha
  have hxc__h1 : h1 xc = some (kAI 0 1800 (va_cpy r f (0 : Int32).toNatClampNeg (nI (n * 12)).toNatClampNeg (nI w).toNatClampNeg)) := by rw [eh1]; exact kset_self _ _ _
  have hxo__h1 : h1 xo = some (kAI 0 150 g) := by rw [eh1, kset_ne (k_ne hxo hxc (by simp))]; exact hxo
  have hb__h1 : h1 b = some (kAI 0 nb r) := by rw [eh1, kset_ne hbc]; exact hb
  refine k_aload_n (pc := 41) i_24_41 rfl rfl ?_
  refine k_getf (pc := 42) i_24_42 f_1_15 ha__h1 rfl ?_
  refine k_aload_n (pc := 45) i_24_45 rfl rfl ?_
  refine k_getf (pc := 46) i_24_46 f_1_22 ha__h1 rfl ?_
  refine k_aload_n (pc := 49) i_24_49 rfl rfl ?_
  refine k_getf (pc := 50) i_24_50 f_1_22 ha__h1 rfl ?_
  refine k_iast (pc := 53) i_24_53 hxo__h1 (vp_in_nI (by omega) (by omega)) (fun h2 eh2 => ?_)
  have ha__h2 : h2 a = some (kOb 1 [.ref xc, .ref xo, .int (nI w), .int (nI n)]) := by rw [eh2, kset_ne (k_ne ha__h1 hxo__h1 (by simp))]; exact ha__h1
  have hxc__h2 : h2 xc = some (kAI 0 1800 (va_cpy r f (0 : Int32).toNatClampNeg (nI (n * 12)).toNatClampNeg (nI w).toNatClampNeg)) := by rw [eh2, kset_ne (k_ne hxc__h1 hxo__h1 (by simp))]; exact hxc__h1
  have hxo__h2 : h2 xo = some (kAI 0 150 (upd g (nI n).toNatClampNeg (nI n))) := by rw [eh2]; exact kset_self _ _ _
  have hb__h2 : h2 b = some (kAI 0 nb r) := by rw [eh2, kset_ne hbo]; exact hb__h1
  refine k_aload_n (pc := 54) i_24_54 rfl rfl ?_
  refine k_dup (pc := 55) i_24_55 rfl ?_
  refine k_getf (pc := 56) i_24_56 f_1_22 ha__h2 rfl ?_
  refine k_iconst (pc := 59) (v := 1) i_24_59 (by decide) ?_
  refine k_iadd (pc := 60) i_24_60 ?_
  rw [show (nI n) + 1 = nI (n + 1) from (nI_1 n)]
  refine k_putf (pc := 61) (fs2 := [.ref xc, .ref xo, .int (nI w), .int (nI (n + 1))]) i_24_61 f_1_22 ha__h2 (by decide +kernel) (Nat.le_of_ble_eq_true rfl) rfl rfl rfl (fun h3 eh3 => ?_)
  have ha__h3 : h3 a = some (kOb 1 [.ref xc, .ref xo, .int (nI w), .int (nI (n + 1))]) := by rw [eh3]; exact kset_self _ _ _
  have hxc__h3 : h3 xc = some (kAI 0 1800 (va_cpy r f (0 : Int32).toNatClampNeg (nI (n * 12)).toNatClampNeg (nI w).toNatClampNeg)) := by rw [eh3, kset_ne (k_ne hxc__h2 ha__h2 (by simp))]; exact hxc__h2
  have hxo__h3 : h3 xo = some (kAI 0 150 (upd g (nI n).toNatClampNeg (nI n))) := by rw [eh3, kset_ne (k_ne hxo__h2 ha__h2 (by simp))]; exact hxo__h2
  have hb__h3 : h3 b = some (kAI 0 nb r) := by rw [eh3, kset_ne (k_ne hb__h2 ha__h2 (by simp))]; exact hb__h2
  refine k_iconst (pc := 64) (v := 1) i_24_64 (by decide) ?_
  exact k_ireturn (pc := 65) i_24_65 rfl rfl ⟨rfl, by rw [eh3, eh2, eh1, nI_clamp (show n * 12 < 2 ^ 31 by omega), nI_clamp (show w < 2 ^ 31 by omega), nI_clamp (show n < 2 ^ 31 by omega)]; rfl⟩
set_option maxHeartbeats 1000000 in
theorem c_kpAddFull {G : kG} {d : Nat} {h : kH} {mc ms a xc xo w n : Nat} {f g : Nat → Int32} {o : Nat → Nat} (ha : h a = some (kOb 1 [.ref xc, .ref xo, .int (nI w), .int (nI n)])) (hxc : h xc = some (kAI 0 1800 f)) (hxo : h xo = some (kAI 0 150 g)) (ho : ∀ k, k < n → g k = nI (o k) ∧ o k < 150) (hw : w ≤ 12) (hn : n ≤ 150) {b nb : Nat} {r : Nat → Int32} (hb : h b = some (kAI 0 nb r)) (hnb : w ≤ nb) (hnb2 : nb ≤ 1000) (hge : n = 150) : kRun G (d + 1) 24 [.ref a, .ref b] h mc ms (kRI h 0) := by
  refine ⟨⟨rfl, Nat.le_of_ble_eq_true rfl⟩, ?_⟩
  show kWP _ _ _ _ 0 [some (.ref a), some (.ref b)] [] _ _ _
  refine k_aload_n (pc := 0) i_24_0 rfl rfl ?_
  refine k_getf (pc := 1) i_24_1 f_1_22 ha rfl ?_
  refine k_sipush (pc := 4) (v := 150) i_24_4 (by decide) ?_
  refine k_icmp_ge (pc := 7) (tgt := 19) i_24_7 (by decide) (fun c1 => ?_) (fun c1 => absurd (nI_le (a := 150) (by omega) (by omega)) c1)
  refine k_iconst (pc := 19) (v := 0) i_24_19 (by decide) ?_
  exact k_ireturn (pc := 20) i_24_20 rfl rfl ⟨rfl, rfl⟩
set_option maxHeartbeats 1000000 in
theorem c_kpIsAt_loop {G : kG} {d : Nat} {h : kH} {mc ms a xc xo w n : Nat} {f g : Nat → Int32} {o : Nat → Nat} (ha : h a = some (kOb 1 [.ref xc, .ref xo, .int (nI w), .int (nI n)])) (hxc : h xc = some (kAI 0 1800 f)) (hxo : h xo = some (kAI 0 150 g)) (ho : ∀ k, k < n → g k = nI (o k) ∧ o k < 150) (hw : w ≤ 12) (hn : n ≤ 150) {b nb : Nat} {r : Nat → Int32} (hb : h b = some (kAI 0 nb r)) (hnb : w ≤ nb) (hnb2 : nb ≤ 1000) {i : Nat} (hi : i < n) : ∀ (m c : Nat), c + m = w → (∀ q, q < c → f (o i * 12 + q) = r q) → kWP G 28 (kRun G d) (kRI h (kb (kpIs f o w r i))) 36 [some (.ref a), some (.int (nI i)), some (.ref b), some (.int (nI (o i * 12))), some (.int (nI c))] [] h mc ms := by
  intro m
  induction m with
  | zero =>
    intro c hc hq
    refine k_iload (pc := 36) i_28_36 rfl ?_
    refine k_aload_n (pc := 38) i_28_38 rfl rfl ?_
    refine k_getf (pc := 39) i_28_39 f_1_18 ha rfl ?_
    refine k_icmp_ge (pc := 42) (tgt := 69) i_28_42 (by decide) (fun c1 => ?_) (fun c1 => absurd (nI_le (by omega) (by omega)) c1)
    refine k_iconst (pc := 69) (v := 1) i_28_69 (by decide) ?_
    exact k_ireturn (pc := 70) i_28_70 rfl rfl (kRI_of (kb_t (fun q hq9 => hq q (by omega))).symm)
  | succ m ih =>
    intro c hc hq
    have hoi := (ho i hi).2
    refine k_iload (pc := 36) i_28_36 rfl ?_
    refine k_aload_n (pc := 38) i_28_38 rfl rfl ?_
    refine k_getf (pc := 39) i_28_39 f_1_18 ha rfl ?_
    refine k_icmp_ge (pc := 42) (tgt := 69) i_28_42 (by decide) (fun c1 => absurd c1 (nI_ge (by omega) (by omega))) (fun c1 => ?_)
    refine k_aload_n (pc := 45) i_28_45 rfl rfl ?_
    refine k_getf (pc := 46) i_28_46 f_1_9 ha rfl ?_
    refine k_iload_n (pc := 49) i_28_49 rfl ?_
    refine k_iload (pc := 50) i_28_50 rfl ?_
    refine k_iadd (pc := 52) i_28_52 ?_
    rw [show (nI (o i * 12)) + (nI c) = nI (o i * 12 + c) from (nI_add _ _)]
    refine k_iald (pc := 53) i_28_53 hxc (vp_in_nI (by omega) (by omega)) ?_
    rw [show f (nI (o i * 12 + c)).toNatClampNeg = f (o i * 12 + c) from (by rw [nI_clamp (by omega)])]
    refine k_aload_n (pc := 54) i_28_54 rfl rfl ?_
    refine k_iload (pc := 55) i_28_55 rfl ?_
    refine k_iald (pc := 57) i_28_57 hb (vp_in_nI (by omega) (by omega)) ?_
    rw [show r (nI c).toNatClampNeg = r c from (by rw [nI_clamp (by omega)])]
    refine k_icmp_eq (pc := 58) (tgt := 63) i_28_58 (by decide) (fun c2 => ?_) (fun c2 => ?_)
    · refine k_iinc (pc := 63) (v := nI (c + 1)) (lo2 := [some (.ref a), some (.int (nI i)), some (.ref b), some (.int (nI (o i * 12))), some (.int (nI (c + 1)))]) i_28_63 rfl (kinc c) rfl ?_
      refine k_goto (pc := 66) (tgt := 36) i_28_66 (by decide) ?_
      exact ih (c + 1) (by omega) (fun q hq9 => by rcases Nat.lt_or_ge q c with z | z; exact hq q z; rw [show q = c by omega]; exact c2)
    · refine k_iconst (pc := 61) (v := 0) i_28_61 (by decide) ?_
      exact k_ireturn (pc := 62) i_28_62 rfl rfl (kRI_of (kb_f (fun z => c2 (z c (by omega)))).symm)
set_option maxHeartbeats 1000000 in
theorem c_kpIsAt {G : kG} {d : Nat} {h : kH} {mc ms a xc xo w n : Nat} {f g : Nat → Int32} {o : Nat → Nat} (ha : h a = some (kOb 1 [.ref xc, .ref xo, .int (nI w), .int (nI n)])) (hxc : h xc = some (kAI 0 1800 f)) (hxo : h xo = some (kAI 0 150 g)) (ho : ∀ k, k < n → g k = nI (o k) ∧ o k < 150) (hw : w ≤ 12) (hn : n ≤ 150) {b nb : Nat} {r : Nat → Int32} (hb : h b = some (kAI 0 nb r)) (hnb : w ≤ nb) (hnb2 : nb ≤ 1000) {i : Nat} (hi : i < n) : kRun G (d + 1) 28 [.ref a, .int (nI i), .ref b] h mc ms (kRI h (kb (kpIs f o w r i))) := by
  refine ⟨⟨rfl, Nat.le_of_ble_eq_true rfl⟩, ?_⟩
  show kWP _ _ _ _ 0 [some (.ref a), some (.int (nI i)), some (.ref b), none, none] [] _ _ _
  refine k_iload_n (pc := 0) i_28_0 rfl ?_
  refine k_if_lt (pc := 1) (tgt := 21) i_28_1 (by decide) (fun c1 => absurd c1 (nI_pos (by omega))) (fun c1 => ?_)
  refine k_iload_n (pc := 4) i_28_4 rfl ?_
  refine k_aload_n (pc := 5) i_28_5 rfl rfl ?_
  refine k_getf (pc := 6) i_28_6 f_1_22 ha rfl ?_
  refine k_icmp_ge (pc := 9) (tgt := 21) i_28_9 (by decide) (fun c2 => absurd c2 (nI_ge hi (by omega))) (fun c2 => ?_)
  refine k_aload_n (pc := 12) i_28_12 rfl rfl ?_
  refine k_alen (pc := 13) (v := nI nb) i_28_13 hb (by decide) rfl ?_
  refine k_aload_n (pc := 14) i_28_14 rfl rfl ?_
  refine k_getf (pc := 15) i_28_15 f_1_18 ha rfl ?_
  refine k_icmp_ge (pc := 18) (tgt := 23) i_28_18 (by decide) (fun c3 => ?_) (fun c3 => absurd (nI_le hnb (by omega)) c3)
  refine k_aload_n (pc := 23) i_28_23 rfl rfl ?_
  refine k_getf (pc := 24) i_28_24 f_1_15 ha rfl ?_
  refine k_iload_n (pc := 27) i_28_27 rfl ?_
  refine k_iald (pc := 28) i_28_28 hxo (vp_in_nI (by omega) (by omega)) ?_
  rw [show g (nI i).toNatClampNeg = nI (o i) from (kpE (ho i hi).1 (by omega))]
  refine k_bipush (pc := 29) (v := 12) i_28_29 (by decide) ?_
  refine k_imul (pc := 31) i_28_31 ?_
  rw [show (nI (o i)) * 12 = nI (o i * 12) from (pk_mul (o i) 12)]
  refine k_istore_n (pc := 32) (lo2 := [some (.ref a), some (.int (nI i)), some (.ref b), some (.int (nI (o i * 12))), none]) i_28_32 (Nat.le_of_ble_eq_true rfl) rfl ?_
  refine k_iconst (pc := 33) (v := 0) i_28_33 (by decide) ?_
  refine k_istore (pc := 34) (lo2 := [some (.ref a), some (.int (nI i)), some (.ref b), some (.int (nI (o i * 12))), some (.int 0)]) i_28_34 (Nat.le_of_ble_eq_true rfl) rfl ?_
  exact c_kpIsAt_loop ha hxc hxo ho hw hn hb hnb hnb2 hi w 0 (by omega) (fun q hq => absurd hq (by omega))
set_option maxHeartbeats 1000000 in
theorem c_kpHolds_loop {G : kG} {d : Nat} {h : kH} {mc ms a xc xo w n : Nat} {f g : Nat → Int32} {o : Nat → Nat} (ha : h a = some (kOb 1 [.ref xc, .ref xo, .int (nI w), .int (nI n)])) (hxc : h xc = some (kAI 0 1800 f)) (hxo : h xo = some (kAI 0 150 g)) (ho : ∀ k, k < n → g k = nI (o k) ∧ o k < 150) (hw : w ≤ 12) (hn : n ≤ 150) {b nb : Nat} {r : Nat → Int32} (hb : h b = some (kAI 0 nb r)) (hnb : w ≤ nb) (hnb2 : nb ≤ 1000) : ∀ (m i : Nat), i + m = n → (∀ q, q < i → ¬ kpIs f o w r q) → kWP G 27 (kRun G (d + 1)) (kRI h (kb (∃ k, k < n ∧ kpIs f o w r k))) 2 [some (.ref a), some (.ref b), some (.int (nI i))] [] h mc ms := by
  intro m
  induction m with
  | zero =>
    intro i hi hq
    refine k_iload_n (pc := 2) i_27_2 rfl ?_
    refine k_aload_n (pc := 3) i_27_3 rfl rfl ?_
    refine k_getf (pc := 4) i_27_4 f_1_22 ha rfl ?_
    refine k_icmp_ge (pc := 7) (tgt := 27) i_27_7 (by decide) (fun c1 => ?_) (fun c1 => absurd (nI_le (by omega) (by omega)) c1)
    refine k_iconst (pc := 27) (v := 0) i_27_27 (by decide) ?_
    exact k_ireturn (pc := 28) i_27_28 rfl rfl (kRI_of (kb_f (fun ⟨k, z1, z2⟩ => hq k (by omega) z2)).symm)
  | succ m ih =>
    intro i hi hq
    refine k_iload_n (pc := 2) i_27_2 rfl ?_
    refine k_aload_n (pc := 3) i_27_3 rfl rfl ?_
    refine k_getf (pc := 4) i_27_4 f_1_22 ha rfl ?_
    refine k_icmp_ge (pc := 7) (tgt := 27) i_27_7 (by decide) (fun c1 => absurd c1 (nI_ge (by omega) (by omega))) (fun c1 => ?_)
    refine k_aload_n (pc := 10) i_27_10 rfl rfl ?_
    refine k_iload_n (pc := 11) i_27_11 rfl ?_
    refine k_aload_n (pc := 12) i_27_12 rfl rfl ?_
    refine k_callv_i (pc := 13) (As := [.ref a, .int (nI i), .ref b]) (st := []) i_27_13 m_1_43 rfl rfl rfl rfl ha rfl (Nat.le_of_ble_eq_true rfl) (c_kpIsAt ha hxc hxo ho hw hn hb hnb hnb2 (i := i) (by omega)) ?_
    refine k_if_eq (pc := 16) (tgt := 21) i_27_16 (by decide) (fun c2 => ?_) (fun c2 => ?_)
    · refine k_iinc (pc := 21) (v := nI (i + 1)) (lo2 := [some (.ref a), some (.ref b), some (.int (nI (i + 1)))]) i_27_21 rfl (kinc i) rfl ?_
      refine k_goto (pc := 24) (tgt := 2) i_27_24 (by decide) ?_
      exact ih (i + 1) (by omega) (fun q hq9 => by rcases Nat.lt_or_ge q i with z | z; exact hq q z; rw [show q = i by omega]; exact kb_0.mp c2)
    · refine k_iconst (pc := 19) (v := 1) i_27_19 (by decide) ?_
      exact k_ireturn (pc := 20) i_27_20 rfl rfl (kRI_of (kb_t ⟨i, by omega, kb_n0.mp c2⟩).symm)
set_option maxHeartbeats 1000000 in
theorem c_kpHolds {G : kG} {d : Nat} {h : kH} {mc ms a xc xo w n : Nat} {f g : Nat → Int32} {o : Nat → Nat} (ha : h a = some (kOb 1 [.ref xc, .ref xo, .int (nI w), .int (nI n)])) (hxc : h xc = some (kAI 0 1800 f)) (hxo : h xo = some (kAI 0 150 g)) (ho : ∀ k, k < n → g k = nI (o k) ∧ o k < 150) (hw : w ≤ 12) (hn : n ≤ 150) {b nb : Nat} {r : Nat → Int32} (hb : h b = some (kAI 0 nb r)) (hnb : w ≤ nb) (hnb2 : nb ≤ 1000) : kRun G (d + 2) 27 [.ref a, .ref b] h mc ms (kRI h (kb (∃ k, k < n ∧ kpIs f o w r k))) := by
  refine ⟨⟨rfl, Nat.le_of_ble_eq_true rfl⟩, ?_⟩
  show kWP _ _ _ _ 0 [some (.ref a), some (.ref b), none] [] _ _ _
  refine k_iconst (pc := 0) (v := 0) i_27_0 (by decide) ?_
  refine k_istore_n (pc := 1) (lo2 := [some (.ref a), some (.ref b), some (.int 0)]) i_27_1 (Nat.le_of_ble_eq_true rfl) rfl ?_
  exact c_kpHolds_loop ha hxc hxo ho hw hn hb hnb hnb2 n 0 (by omega) (fun q hq => absurd hq (by omega))
set_option maxHeartbeats 1000000 in
theorem c_kpFind_loop {G : kG} {d : Nat} {h : kH} {mc ms a xc xo w n : Nat} {f g : Nat → Int32} {o : Nat → Nat} (ha : h a = some (kOb 1 [.ref xc, .ref xo, .int (nI w), .int (nI n)])) (hxc : h xc = some (kAI 0 1800 f)) (hxo : h xo = some (kAI 0 150 g)) (ho : ∀ k, k < n → g k = nI (o k) ∧ o k < 150) (hw : w ≤ 12) (hn : n ≤ 150) (v : Int32) : ∀ (m i : Nat), i + m = n → kWP G 29 (kRun G d) (kRI h (nI (tbNx (fun k => f (o k * 12) == v) m i))) 2 [some (.ref a), some (.int v), some (.int (nI i))] [] h mc ms := by
  intro m
  induction m with
  | zero =>
    intro i hi
    refine k_iload_n (pc := 2) i_29_2 rfl ?_
    refine k_aload_n (pc := 3) i_29_3 rfl rfl ?_
    refine k_getf (pc := 4) i_29_4 f_1_22 ha rfl ?_
    refine k_icmp_ge (pc := 7) (tgt := 36) i_29_7 (by decide) (fun c1 => ?_) (fun c1 => absurd (nI_le (by omega) (by omega)) c1)
    refine k_aload_n (pc := 36) i_29_36 rfl rfl ?_
    refine k_getf (pc := 37) i_29_37 f_1_22 ha rfl ?_
    exact k_ireturn (pc := 40) i_29_40 rfl rfl (kRI_of (by unfold tbNx; rw [show i = n by omega]))
  | succ m ih =>
    intro i hi9
    have hi : i < n := by omega
    have hoi := (ho i hi).2
    refine k_iload_n (pc := 2) i_29_2 rfl ?_
    refine k_aload_n (pc := 3) i_29_3 rfl rfl ?_
    refine k_getf (pc := 4) i_29_4 f_1_22 ha rfl ?_
    refine k_icmp_ge (pc := 7) (tgt := 36) i_29_7 (by decide) (fun c1 => absurd c1 (nI_ge (by omega) (by omega))) (fun c1 => ?_)
    refine k_aload_n (pc := 10) i_29_10 rfl rfl ?_
    refine k_getf (pc := 11) i_29_11 f_1_9 ha rfl ?_
    refine k_aload_n (pc := 14) i_29_14 rfl rfl ?_
    refine k_getf (pc := 15) i_29_15 f_1_15 ha rfl ?_
    refine k_iload_n (pc := 18) i_29_18 rfl ?_
    refine k_iald (pc := 19) i_29_19 hxo (vp_in_nI (by omega) (by omega)) ?_
    rw [show g (nI i).toNatClampNeg = nI (o i) from (kpE (ho i hi).1 (by omega))]
    refine k_bipush (pc := 20) (v := 12) i_29_20 (by decide) ?_
    refine k_imul (pc := 22) i_29_22 ?_
    rw [show (nI (o i)) * 12 = nI (o i * 12) from (pk_mul (o i) 12)]
    refine k_iald (pc := 23) i_29_23 hxc (vp_in_nI (by omega) (by omega)) ?_
    rw [show f (nI (o i * 12)).toNatClampNeg = f (o i * 12) from (by rw [nI_clamp (by omega)])]
    refine k_iload_n (pc := 24) i_29_24 rfl ?_
    refine k_icmp_ne (pc := 25) (tgt := 30) i_29_25 (by decide) (fun c2 => ?_) (fun c2 => ?_)
    · refine k_iinc (pc := 30) (v := nI (i + 1)) (lo2 := [some (.ref a), some (.int v), some (.int (nI (i + 1)))]) i_29_30 rfl (kinc i) rfl ?_
      refine k_goto (pc := 33) (tgt := 2) i_29_33 (by decide) ?_
      rw [show tbNx (fun k => f (o k * 12) == v) (m + 1) i = tbNx (fun k => f (o k * 12) == v) m (i + 1) by rw [tbNx, if_neg (by simp [c2])]]
      exact ih (i + 1) (by omega)
    · refine k_iload_n (pc := 28) i_29_28 rfl ?_
      exact k_ireturn (pc := 29) i_29_29 rfl rfl (kRI_of (by unfold tbNx; rw [if_pos (by simp [c2])]))
set_option maxHeartbeats 1000000 in
theorem c_kpFind {G : kG} {d : Nat} {h : kH} {mc ms a xc xo w n : Nat} {f g : Nat → Int32} {o : Nat → Nat} (ha : h a = some (kOb 1 [.ref xc, .ref xo, .int (nI w), .int (nI n)])) (hxc : h xc = some (kAI 0 1800 f)) (hxo : h xo = some (kAI 0 150 g)) (ho : ∀ k, k < n → g k = nI (o k) ∧ o k < 150) (hw : w ≤ 12) (hn : n ≤ 150) (v : Int32) : kRun G (d + 1) 29 [.ref a, .int v] h mc ms (kRI h (nI (tbNx (fun k => f (o k * 12) == v) n 0))) := by
  refine ⟨⟨rfl, Nat.le_of_ble_eq_true rfl⟩, ?_⟩
  show kWP _ _ _ _ 0 [some (.ref a), some (.int v), none] [] _ _ _
  refine k_iconst (pc := 0) (v := 0) i_29_0 (by decide) ?_
  refine k_istore_n (pc := 1) (lo2 := [some (.ref a), some (.int v), some (.int 0)]) i_29_1 (Nat.le_of_ble_eq_true rfl) rfl ?_
  exact c_kpFind_loop ha hxc hxo ho hw hn v n 0 (by omega)
set_option maxHeartbeats 1000000 in
theorem c_kpEmpty {G : kG} {d : Nat} {h : kH} {mc ms a xc xo : Nat} {x z v : Int32} (ha : h a = some (kOb 1 [.ref xc, .ref xo, .int x, .int z])) : kRun G (d + 1) 20 [.ref a, .int v] h mc ms (kRV (kset h a (kOb 1 [.ref xc, .ref xo, .int v, .int 0]))) := by
  refine ⟨⟨rfl, Nat.le_of_ble_eq_true rfl⟩, ?_⟩
  show kWP _ _ _ _ 0 [some (.ref a), some (.int v)] [] _ _ _
  refine k_aload_n (pc := 0) i_20_0 rfl rfl ?_
  refine k_iload_n (pc := 1) i_20_1 rfl ?_
  refine k_putf (pc := 2) (fs2 := [.ref xc, .ref xo, .int v, .int z]) i_20_2 f_1_18 ha (by decide +kernel) (Nat.le_of_ble_eq_true rfl) rfl rfl rfl (fun h1 eh1 => ?_)
  have ha__h1 : h1 a = some (kOb 1 [.ref xc, .ref xo, .int v, .int z]) := by rw [eh1]; exact kset_self _ _ _
  refine k_aload_n (pc := 5) i_20_5 rfl rfl ?_
  refine k_iconst (pc := 6) (v := 0) i_20_6 (by decide) ?_
  refine k_putf (pc := 7) (fs2 := [.ref xc, .ref xo, .int v, .int 0]) i_20_7 f_1_22 ha__h1 (by decide +kernel) (Nat.le_of_ble_eq_true rfl) rfl rfl rfl (fun h2 eh2 => ?_)
  have ha__h2 : h2 a = some (kOb 1 [.ref xc, .ref xo, .int v, .int 0]) := by rw [eh2]; exact kset_self _ _ _
  exact k_return (pc := 10) i_20_10 rfl ⟨rfl, by rw [eh2, eh1, kset_kset]⟩
