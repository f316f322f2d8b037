set_option maxHeartbeats 4000000 in
theorem neg_msb (x : Int32) : (x < 0) = (x.toBitVec.msb = true) := by
  rw [BitVec.msb_eq_toInt, decide_eq_true_iff]
  refine propext ?_
  rw [Int32.lt_iff_toInt_lt]
  exact Iff.rfl
set_option maxHeartbeats 4000000 in
theorem xor8 (x : Int32) : (0 ≤ x ^^^ 8) = (¬ x < 0) := by
  have h : (¬ (x ^^^ 8) < 0) = (¬ x < 0) := by
    rw [neg_msb, neg_msb, Int32.toBitVec_xor, BitVec.msb_xor, show (8 : Int32).toBitVec.msb = false by decide, Bool.xor_false]
  rw [← h]
  refine propext ?_
  rw [Int32.lt_iff_toInt_lt, Int32.le_iff_toInt_le]
  omega
set_option maxHeartbeats 4000000 in
theorem div8 {a : Nat} (h : a < 2147483648) : nI a / 8 = nI (a / 8) := by
  have : (nI a / 8).toInt = (nI (a / 8)).toInt := by
    rw [Int32.toInt_div, nI_toInt (by omega), nI_toInt (by omega), show (8 : Int32).toInt = 8 by decide]
    rw [Int.tdiv_eq_ediv_of_nonneg (by omega)]
    rw [Int.bmod_eq_of_le (by omega) (by omega)]
    omega
  exact Int32.toInt_inj.mp this
set_option maxHeartbeats 4000000 in
theorem mod8 {a : Nat} (h : a < 2147483648) : nI a - nI a / 8 * 8 = nI (a % 8) := by
  rw [div8 h, pn_mulL, pn_sub (by omega)]
  congr 1
  omega
set_option maxHeartbeats 4000000 in
theorem fd_pos {T : kT} {M : kM} {a : Nat} (h : a < 2147483648) : F_157 T (nI a) 8 M = some (nI (a / 8), M) ∧ F_158 T (nI a) 8 M = some (nI (a % 8), M) := by
  have x : 0 ≤ nI a ^^^ 8 := by rw [xor8, pn_neg h]; exact id
  constructor
  · unfold F_157
    rw [show (!((8 : Int32) == 0)) = true from rfl, kGd_t, if_pos x, div8 h]
  · unfold F_158
    rw [show (!((8 : Int32) == 0)) = true from rfl, kGd_t, if_pos x, mod8 h]
set_option maxHeartbeats 4000000 in
theorem fd_neg {T : kT} {M : kM} {x : Int32} (h : x < 0) : ∃ q r, F_157 T x 8 M = some (q, M) ∧ q < 0 ∧ F_158 T x 8 M = some (r, M) := by
  have nx : ¬ 0 ≤ x ^^^ 8 := by rw [xor8]; exact fun z => z h
  have hx : x.toInt < 0 := by rw [Int32.lt_iff_toInt_lt] at h; exact h
  have lo := Int32.le_toInt x
  have td : x.toInt.tdiv 8 = -((-x.toInt) / 8) := by
    rw [← Int.tdiv_eq_ediv_of_nonneg (by omega), Int.neg_tdiv, Int.neg_neg]
  have ed : (x / 8).toInt = x.toInt.tdiv 8 := by
    rw [Int32.toInt_div, show (8 : Int32).toInt = 8 by decide]
    have h1 : x.toInt.tdiv 8 ≤ 0 := by omega
    have h2 : -2147483648 ≤ x.toInt.tdiv 8 := by omega
    rw [Int.bmod_eq_of_le (by omega) (by omega)]
  have e2 : ∃ r, F_158 T x 8 M = some (r, M) := by
    unfold F_158
    rw [show (!((8 : Int32) == 0)) = true from rfl, kGd_t, if_neg nx]
    by_cases q : x - x / 8 * 8 = 0
    · exact ⟨_, by rw [if_pos q]⟩
    · exact ⟨_, by rw [if_neg q]⟩
  obtain ⟨r, e2⟩ := e2
  unfold F_157
  rw [show (!((8 : Int32) == 0)) = true from rfl, kGd_t, if_neg nx]
  by_cases q : x / 8 * 8 = x
  · refine ⟨x / 8, r, by rw [if_pos q], ?_, e2⟩
    rw [Int32.lt_iff_toInt_lt, ed]
    have : x.toInt.tdiv 8 ≠ 0 := by
      intro z
      have z8 : x / 8 = 0 := Int32.toInt_inj.mp (by rw [ed, z]; decide)
      rw [z8] at q
      rw [← q] at h
      exact absurd h (by decide)
    have e0 : (0 : Int32).toInt = 0 := by decide
    omega
  · refine ⟨x / 8 - 1, r, by rw [if_neg q], ?_, e2⟩
    rw [Int32.lt_iff_toInt_lt, Int32.toInt_sub, ed, show (1 : Int32).toInt = 1 by decide, show (0 : Int32).toInt = 0 by decide]
    rw [Int.bmod_eq_of_le (by omega) (by omega)]
    omega
set_option maxHeartbeats 4000000 in
theorem cl_set {T : kT} {M : kM} {j w r c o : Nat} {v x : Int32} (hj : j < T.1) (hw : gp M (lTb j) 0 = nI w) (hr : gp M (lTb j) 4 = nI r) (hw6 : w ≤ 6) (hr4 : r ≤ 40) (hc : c < w) (ho : o < w) : ∀ m k f, k + m = r →
    (∀ i d, i < k → d < w → f (i * w + d) = if cp M j w c v i = true ∧ d = o then x else gp M (lTc j) (i * w + d)) → (∀ y, k * w ≤ y → f y = gp M (lTc j) y) →
    ∃ f', F_79_3 T j (nI c) v (nI o) x (nI k) (sa M (lTc j) f) = some ((), sa M (lTc j) f') ∧ ∀ i d, i < r → d < w → f' (i * w + d) = if cp M j w c v i = true ∧ d = o then x else gp M (lTc j) (i * w + d) := by
  intro m
  induction m with
  | zero =>
    intro k f e h1 h2
    obtain rfl : k = r := by omega
    refine ⟨f, ?_, h1⟩
    rw [F_79_3_eq]
    unfold B_79_3
    rw [lv_tb hj, kGd_t, show gp (sa M (lTc j) f) (lTb j) 4 = nI k by simp (disch := omega) only [gp_ne, gpa_ne, gp_sp, gp_sa, upd_eq, upd_ne, gq_sp, gq_sa]; exact hr, if_pos (by rw [pn_le (by omega) (by omega)]; omega), kAg_r]
  | succ m ih =>
    intro k f e h1 h2
    have hr' : gp (sa M (lTc j) f) (lTb j) 4 = nI r := by simp (disch := omega) only [gp_ne, gpa_ne, gp_sp, gp_sa, upd_eq, upd_ne, gq_sp, gq_sa]; exact hr
    have hw' : gp (sa M (lTc j) f) (lTb j) 0 = nI w := by simp (disch := omega) only [gp_ne, gpa_ne, gp_sp, gp_sa, upd_eq, upd_ne, gq_sp, gq_sa]; exact hw
    have val : gp (sa M (lTc j) f) (lTc j) (k * w + c) = gp M (lTc j) (k * w + c) := by rw [gp_sa]; exact h2 _ (by omega)
    have lt1 := mul_lt (w := w) (show k < r by omega)
    have rw40 : r * w ≤ 40 * 6 := Nat.mul_le_mul hr4 hw6
    rw [F_79_3_eq]
    unfold B_79_3
    rw [lv_tb hj, kGd_t, hr', if_neg (by rw [pn_le (by omega) (by omega)]; omega), tval hj hw' hr' hw6 hr4 (by omega) hc, kBd_s, val]
    by_cases q : gp M (lTc j) (k * w + c) = v
    · have pk : cp M j w c v k = true := decide_eq_true q
      rw [if_pos q, hasC_in hj hw' hw6 ho, kBd_s, if_neg (by decide), hw', pn_mul, pn_add, kGx_nI (by omega) (by omega), pn_nat (by omega), kAg_l, pn_addL]
      have e' : sp (sa M (lTc j) f) (lTc j) (k * w + o) x = sa M (lTc j) (upd f (k * w + o) x) := by unfold sp; rw [sa_sa, gp_sa]
      show ∃ f', F_79_3 T j (nI c) v (nI o) x (nI (k + 1)) (sp (sa M (lTc j) f) (lTc j) (k * w + o) x) = _ ∧ _
      rw [e']
      refine ih (k + 1) _ (by omega) (fun i d hi hd => ?_) (fun y hy => ?_)
      · by_cases qi : i = k
        · subst qi
          by_cases qd : d = o
          · rw [qd, upd_eq, if_pos ⟨pk, rfl⟩]
          · rw [upd_ne (by omega), if_neg (fun z => qd z.2)]
            exact h2 _ (by omega)
        · have lt := mul_lt (w := w) (show i < k by omega)
          rw [upd_ne (by omega)]
          exact h1 i d (by omega) hd
      · rw [Nat.add_mul, Nat.one_mul] at hy
        rw [upd_ne (by omega)]
        exact h2 y (by omega)
    · have pk : ¬ cp M j w c v k = true := by rw [show cp M j w c v k = false from decide_eq_false q]; decide
      rw [if_neg q, kAg_l, pn_addL]
      refine ih (k + 1) f (by omega) (fun i d hi hd => ?_) (fun y hy => ?_)
      · by_cases qi : i = k
        · subst qi
          rw [if_neg (fun z => pk z.1)]
          exact h2 _ (by omega)
        · exact h1 i d (by omega) hd
      · rw [Nat.add_mul, Nat.one_mul] at hy
        exact h2 y (by omega)
set_option maxHeartbeats 4000000 in
theorem rf_set {T : kT} {M : kM} {j r c o : Nat} {v x : Int32} (hj : j < 6) (hr : gp M (lMa 4) j = nI r) (hr4 : r ≤ 40) (hc : c < 6) (ho : o < 6) : ∀ m k a f, k + m = r →
    (∀ i d, i < k → d < 6 → f ((j * 40 + i) * 6 + d) = if rp M j c v i = true ∧ d = o then x else gp M (lMa 5) ((j * 40 + i) * 6 + d)) → (∀ y, (j * 40 + k) * 6 ≤ y → f y = gp M (lMa 5) y) → (∀ y, y < j * 40 * 6 → f y = gp M (lMa 5) y) →
    ∃ f', F_106_89 T (nI j) v x (nI c) (nI o) (nI a) (nI k) (sa M (lMa 5) f) = some (nI (a + cn (rp M j c v) m k), sp (sp (sa M (lMa 5) f') lMo 8 (gp M lMo 8 + nI (a + cn (rp M j c v) m k))) lMo 15 0) ∧ (∀ i d, i < r → d < 6 → f' ((j * 40 + i) * 6 + d) = if rp M j c v i = true ∧ d = o then x else gp M (lMa 5) ((j * 40 + i) * 6 + d)) ∧ (∀ y, (j * 40 + 40) * 6 ≤ y → f' y = gp M (lMa 5) y) ∧ (∀ y, y < j * 40 * 6 → f' y = gp M (lMa 5) y) := by
  intro m
  induction m with
  | zero =>
    intro k a f e h1 h2 h3
    obtain rfl : k = r := by omega
    refine ⟨f, ?_, h1, fun y hy => h2 y (by omega), h3⟩
    rw [F_106_89_eq]
    unfold B_106_89
    rw [kGx_nI hj (by omega), pn_nat (by omega), show gp (sa M (lMa 5) f) (lMa 4) j = nI k by simp (disch := omega) only [gp_ne, gpa_ne, gp_sp, gp_sa, upd_eq, upd_ne, gq_sp, gq_sa]; exact hr, if_pos (by rw [pn_le (by omega) (by omega)]; omega), kAg_r, cn, Nat.add_zero]
    simp (disch := omega) only [gp_ne, gpa_ne, gp_sp, gp_sa, upd_eq, upd_ne, gq_sp, gq_sa]
  | succ m ih =>
    intro k a f e h1 h2 h3
    have hr' : gp (sa M (lMa 5) f) (lMa 4) j = nI r := by simp (disch := omega) only [gp_ne, gpa_ne, gp_sp, gp_sa, upd_eq, upd_ne, gq_sp, gq_sa]; exact hr
    have val : gp (sa M (lMa 5) f) (lMa 5) ((j * 40 + k) * 6 + c) = gp M (lMa 5) ((j * 40 + k) * 6 + c) := by rw [gp_sa]; exact h2 _ (by omega)
    rw [F_106_89_eq]
    unfold B_106_89 F_99
    rw [kGx_nI hj (by omega), pn_nat (by omega), hr', if_neg (by rw [pn_le (by omega) (by omega)]; omega), kBd_s, pn_mulL, pn_add, pn_mulL, pn_add, kGx_nI (by omega) (by omega), pn_nat (by omega), val, cn]
    by_cases q : gp M (lMa 5) ((j * 40 + k) * 6 + c) = v
    · have pk : rp M j c v k = true := decide_eq_true q
      rw [if_pos q, kBd_s, pn_add, kGx_nI (by omega) (by omega), pn_nat (by omega), kAg_l, pn_addL, pn_addL, pk, cond_true, ← Nat.add_assoc]
      have e' : sp (sa M (lMa 5) f) (lMa 5) ((j * 40 + k) * 6 + o) x = sa M (lMa 5) (upd f ((j * 40 + k) * 6 + o) x) := by unfold sp; rw [sa_sa, gp_sa]
      rw [e']
      refine ih (k + 1) (a + 1) _ (by omega) (fun i d hi hd => ?_) (fun y hy => ?_) (fun y hy => ?_)
      · by_cases qi : i = k
        · subst qi
          by_cases qd : d = o
          · rw [qd, upd_eq, if_pos ⟨pk, rfl⟩]
          · rw [upd_ne (by omega), if_neg (fun z => qd z.2)]
            exact h2 _ (by omega)
        · rw [upd_ne (by omega)]
          exact h1 i d (by omega) hd
      · rw [upd_ne (by omega)]
        exact h2 y (by omega)
      · rw [upd_ne (by omega)]
        exact h3 y hy
    · have pk : rp M j c v k = false := decide_eq_false q
      rw [if_neg q, kAg_l, pn_addL, pk, cond_false, Nat.zero_add]
      refine ih (k + 1) a f (by omega) (fun i d hi hd => ?_) (fun y hy => h2 y (by omega)) h3
      by_cases qi : i = k
      · subst qi
        rw [if_neg (fun z => by rw [pk] at z; exact absurd z.1 (by decide))]
        exact h2 _ (by omega)
      · exact h1 i d (by omega) hd
set_option maxHeartbeats 4000000 in
theorem c_change {T : kT} {M : kM} {t b v x : Int32} (h : iNv T M) : okI T (F_148 T t b v x M) (F_106 T t b v x) := by
  have hA := h.1
  have hT := h.2.2.2.1
  have o1 := hA.1.2
  have h5 := hA.2.2.2.2.1
  have r1 : ∀ (X : kM) (s : Int32), gp (sp X lMo 0 s) lMo 0 = s := fun X s => by simp (disch := omega) only [gp_ne, gpa_ne, gp_sp, gp_sa, upd_eq, upd_ne, gq_sp, gq_sa]
  have e71 : ∀ p q : Int32, F_106_71 T t v x p q 1 M = some (0, sp M lMo 0 1) := fun p q => by unfold F_106_71; rw [r1, if_neg (by decide)]
  by_cases bn : b < 0
  · obtain ⟨q, r, d1, d2, d3⟩ := fd_neg (T := T) (M := M) bn
    refine noI (k := 1) (b := 0) h (by decide) ?_ ?_
    · unfold F_148 F_6 F_6_51
      rcases in_cases t T.1 (by omega) with ⟨j, hj, rfl⟩ | ho
      · obtain ⟨w, r', t1, t2, t3, t4, -⟩ := hA.2.2.1 j hj
        rw [by_in hA hT hj, kBd_s, d1, kBd_s, d3, kBd_s, kOpt_s, lv_tb hj, kGd_t, hasC_out hj t4 t2 (Or.inl d2), kBd_s, if_pos rfl]; rfl
      · rw [by_out hA hT ho, kBd_s, d1, kBd_s, d3, kBd_s, kOpt_n]; rfl
    · unfold F_106
      rw [if_pos bn, e71]
  · obtain ⟨a, ha, rfl⟩ := nI_of bn
    obtain ⟨d1, d2⟩ := fd_pos (T := T) (M := M) (a := a) (by omega)
    have q1 := div8 (a := a) (by omega)
    have q2 := mod8 (a := a) (by omega)
    rcases in_cases t T.1 (by omega) with ⟨j, hj, rfl⟩ | ho
    · obtain ⟨w, r, t1, t2, t3, t4, t5, t6, t7, t8, t9⟩ := hA.2.2.1 j hj
      by_cases hc : a / 8 < w
      · by_cases hd : a % 8 < w
        · obtain ⟨k, hk, k1, k2⟩ := trk hA
          have pq : ∀ i, i < r → cp M j w (a / 8) v i = rp M j (a / 8) v i := fun i hi => by show decide _ = decide _; rw [t8 i _ hi hc]
          generalize hn : cn (cp M j w (a / 8) v) r 0 = n
          have hn' : cn (rp M j (a / 8) v) r 0 = n := by rw [← hn]; exact (cn_congr r 0 (fun i _ hi => pq i (by omega))).symm
          have n40 : n ≤ 40 := by have := cn_le (p := cp M j w (a / 8) v) r 0; omega
          have ct : F_76 T j (nI (a / 8)) v M = some (nI n, M) := by
            unfold F_76
            have := cl_count (T := T) (v := v) hj t4 t6 t2 t3 hc r 0 0 (by omega)
            rw [Nat.zero_add, hn] at this
            exact this
          have mc := may (T := T) (M := M) (k := k) (n := n) hk n40 (by rw [h5.1]; exact k1) (by rw [h5.1]; exact h5.2)
          have rct : ∀ X, gp X (lMa 4) = gp M (lMa 4) → gp X (lMa 5) = gp M (lMa 5) → F_104 T (nI j) (nI (a / 8)) v X = some (nI n, X) := by
            intro X x1 x2
            unfold F_104
            have := rf_count (T := T) (M := X) (v := v) (j := j) (r := r) (c := a / 8) (by omega) (by rw [x1]; exact t7) t3 (by omega) r 0 0 (by omega)
            have e : rp X j (a / 8) v = rp M j (a / 8) v := by unfold rp; rw [x2]
            rw [e, Nat.zero_add, hn'] at this
            exact this
          by_cases ok : gp M lMo 7 = 0 ∨ k + n ≤ 120
          · have mc1 : F_85 T (nI n) M = some (1, M) := by rw [if_pos (by rw [h5.1]; exact ok)] at mc; exact mc
            have c4 : gp (cnt (sq M lD 6 none) n) (lTb j) 4 = nI r := by rw [cnt_ne (by omega), sqE]; exact t6
            have c0 : gp (cnt (sq M lD 6 none) n) (lTb j) 0 = nI w := by rw [cnt_ne (by omega), sqE]; exact t4
            have cc : gp (cnt (sq M lD 6 none) n) (lTc j) = gp M (lTc j) := by rw [cnt_ne (by omega), sqE]
            have ecp : cp (cnt (sq M lD 6 none) n) j w (a / 8) v = cp M j w (a / 8) v := by unfold cp; rw [cc]
            obtain ⟨f', ef, hf⟩ := cl_set (T := T) (v := v) (x := x) (o := a % 8) (M := cnt (sq M lD 6 none) n) hj c0 c4 t2 t3 hc hd r 0 (gp (cnt (sq M lD 6 none) n) (lTc j)) (by omega) (fun i d hi => absurd hi (Nat.not_lt_zero _)) (fun _ _ => rfl)
            rw [sa_id] at ef
            rw [ecp, cc] at hf
            have idr : sp (sa (cnt (sq M lD 6 none) n) (lTc j) f') (lTb j) 4 (nI r) = sa (cnt (sq M lD 6 none) n) (lTc j) f' := by
              have : gp (sa (cnt (sq M lD 6 none) n) (lTc j) f') (lTb j) 4 = nI r := by simp (disch := omega) only [gp_ne, gpa_ne, gp_sp, gp_sa, upd_eq, upd_ne, gq_sp, gq_sa]; exact c4
              rw [← this, sp_id]
            have e1 : F_148 T (nI j) (nI a) v x M = some (0, upC M j n r f') := by
              unfold F_148 F_6 F_79
              rw [by_in hA hT hj, kBd_s, d1, kBd_s, d2, kBd_s, kOpt_s, lv_tb hj, kGd_t, hasC_in hj t4 t2 hc, kBd_s, if_neg (by decide), hasC_in hj t4 t2 hd, kBd_s, if_neg (by decide), ct, kBd_s, mc1, kBd_s, if_neg (by decide), cl_cnt, kBd_s, show F_79_3 T j (nI (a / 8)) v (nI (a % 8)) x 0 (cnt (sq M lD 6 none) n) = _ from ef]
              unfold upC
              rw [idr]; rfl
            have gR : ∀ b, gp (upC M j n r f') (21, b) = gp M (21, b) := fun b => upC_a (by omega) (by omega) (by omega)
            have gO : gp (upC M j n r f') lMo = gp M lMo := upC_a (by omega) (by omega) (by omega)
            have gM5 : gp (sp (upC M j n r f') lMo 0 0) (lMa 5) = gp M (lMa 5) := by simp (disch := omega) only [gp_ne, gpa_ne, gp_sp, gp_sa, upd_eq, upd_ne, gq_sp, gq_sa]; exact gR 5
            obtain ⟨g', eg, hg, hg1, hg2⟩ := rf_set (T := T) (M := sp (upC M j n r f') lMo 0 0) (j := j) (r := r) (c := a / 8) (o := a % 8) (v := v) (x := x) (by omega) (by simp (disch := omega) only [gp_ne, gpa_ne, gp_sp, gp_sa, upd_eq, upd_ne, gq_sp, gq_sa]; rw [gR 4]; exact t7) t3 (by omega) (by omega) r 0 0 (gp (sp (upC M j n r f') lMo 0 0) (lMa 5)) (by omega) (fun i d hi => absurd hi (Nat.not_lt_zero _)) (fun _ _ => rfl) (fun _ _ => rfl)
            have erp : rp (sp (upC M j n r f') lMo 0 0) j (a / 8) v = rp M j (a / 8) v := by unfold rp; rw [gM5]
            rw [sa_id, erp, Nat.zero_add, hn'] at eg
            rw [erp, gM5] at hg
            rw [gM5] at hg1 hg2
            have idr2 : sp (sa (sp (upC M j n r f') lMo 0 0) (lMa 5) g') (lMa 4) j (nI r) = sa (sp (upC M j n r f') lMo 0 0) (lMa 5) g' := by
              have : gp (sa (sp (upC M j n r f') lMo 0 0) (lMa 5) g') (lMa 4) j = nI r := by simp (disch := omega) only [gp_ne, gpa_ne, gp_sp, gp_sa, upd_eq, upd_ne, gq_sp, gq_sa]; rw [gR 4]; exact t7
              rw [← this, sp_id]
            have e2 : F_106 T (nI j) (nI a) v x (upC M j n r f') = some (nI n, upR (upC M j n r f') (gp M lMo 8 + nI n) j r g') := by
              have e43 : F_106_71 T (nI j) v x (nI (a / 8)) (nI (a % 8)) 0 (upC M j n r f') = some (nI n, upR (upC M j n r f') (gp M lMo 8 + nI n) j r g') := by
                unfold F_106_71
                rw [r1, if_pos (by decide), show F_106_89 T (nI j) v x (nI (a / 8)) (nI (a % 8)) 0 0 (sp (upC M j n r f') lMo 0 0) = _ from eg]
                have : gp (sp (upC M j n r f') lMo 0 0) lMo 8 = gp M lMo 8 := by simp (disch := omega) only [gp_ne, gpa_ne, gp_sp, gp_sa, upd_eq, upd_ne, gq_sp, gq_sa]; rw [gO]
                rw [this]
                unfold upR
                rw [idr2]
              unfold F_106
              rw [if_neg bn, q2, q1, isC_in (by rw [gO]; exact o1) hT hj (by rw [gR 2]; exact t5) t2 hc, kBd_s, if_neg (by decide), isC_in (by rw [gO]; exact o1) hT hj (by rw [gR 2]; exact t5) t2 hd, kBd_s, if_neg (by decide), gO]
              by_cases q : gp M lMo 7 = 0
              · rw [if_pos q, e43]
              · have g1 := h5.2.resolve_left q
                have le : gp M lMo 8 + nI n ≤ 120 := by rw [k2 g1, pn_add]; simp (disch := omega) only [pn_mulL, pn_addL, pn_addR, pn_ltL, pn_ltR, pn_leL, pn_leR, pn_eqL, pn_eqR, pn_subL, pn_z, pn_add, pn_mul, pn_nat, pn_inj, pn_lt, pn_le, pn_neg, kGx_nI, kGx_L]; exact ok.resolve_left q
                rw [if_neg q, rct _ (gR 4) (gR 5), kBd_s, if_pos le, e43]
            refine ⟨0, _, _, _, e1, e2, by unfold upR; simp (disch := omega) only [gp_ne, gpa_ne, gp_sp, gp_sa, upd_eq, upd_ne, gq_sp, gq_sa], fun _ => ?_, ?_⟩
            · show go (upC M j n r f') 0 = _; unfold upC; rw [go_so]; exact if_pos rfl
            · refine up_inv h hj t4 t2 t3 n40 (fun i c hi hc' => ?_) hg1 hg2 k1 k2 (fun g => by rcases ok with y | y; exact absurd (y.symm.trans g) (by decide); exact y)
              rw [hf i c hi hc', hg i c hi (by omega), pq i hi, t8 i c hi hc']
          · have g7 : ¬ gp M lMo 7 = 0 := fun z => ok (Or.inl z)
            have g1 : gp M lMo 7 = 1 := h5.2.resolve_left g7
            have kn : ¬ k + n ≤ 120 := fun z => ok (Or.inr z)
            have mc0 : F_85 T (nI n) M = some (0, M) := by rw [if_neg (by rw [h5.1]; exact ok)] at mc; exact mc
            refine noI (k := 2) (b := 0) h (by decide) ?_ ?_
            · unfold F_148 F_6
              rw [by_in hA hT hj, kBd_s, d1, kBd_s, d2, kBd_s, kOpt_s, lv_tb hj, kGd_t, hasC_in hj t4 t2 hc, kBd_s, if_neg (by decide), hasC_in hj t4 t2 hd, kBd_s, if_neg (by decide), ct, kBd_s, mc0, kBd_s, if_pos rfl]; rfl
            · unfold F_106 F_106_71
              rw [if_neg bn, q2, q1, isC_in o1 hT hj t5 t2 hc, kBd_s, if_neg (by decide), isC_in o1 hT hj t5 t2 hd, kBd_s, if_neg (by decide), if_neg g7, rct M rfl rfl, kBd_s, k2 g1, pn_add, if_neg (by simp (disch := omega) only [pn_mulL, pn_addL, pn_addR, pn_ltL, pn_ltR, pn_leL, pn_leR, pn_eqL, pn_eqR, pn_subL, pn_z, pn_add, pn_mul, pn_nat, pn_inj, pn_lt, pn_le, pn_neg, kGx_nI, kGx_L]; exact kn), r1, if_neg (by decide)]
        · have hdo : nI (a % 8) < 0 ∨ nI w ≤ nI (a % 8) := Or.inr (by rw [pn_le (by omega) (by omega)]; omega)
          refine noI (k := 1) (b := 0) h (by decide) ?_ ?_
          · unfold F_148 F_6 F_6_51
            rw [by_in hA hT hj, kBd_s, d1, kBd_s, d2, kBd_s, kOpt_s, lv_tb hj, kGd_t, hasC_in hj t4 t2 hc, kBd_s, if_neg (by decide), hasC_out hj t4 t2 hdo, kBd_s, if_pos rfl]; rfl
          · unfold F_106
            rw [if_neg bn, q2, q1, isC_in o1 hT hj t5 t2 hc, kBd_s, if_neg (by decide), isC_out o1 hT hj t5 t2 hdo, kBd_s, if_pos rfl, e71]
      · have hco : nI (a / 8) < 0 ∨ nI w ≤ nI (a / 8) := Or.inr (by rw [pn_le (by omega) (by omega)]; omega)
        refine noI (k := 1) (b := 0) h (by decide) ?_ ?_
        · unfold F_148 F_6 F_6_51
          rw [by_in hA hT hj, kBd_s, d1, kBd_s, d2, kBd_s, kOpt_s, lv_tb hj, kGd_t, hasC_out hj t4 t2 hco, kBd_s, if_pos rfl]; rfl
        · unfold F_106
          rw [if_neg bn, q2, q1, isC_out o1 hT hj t5 t2 hco, kBd_s, if_pos rfl, e71]
    · refine noI (k := 1) (b := 0) h (by decide) ?_ ?_
      · unfold F_148 F_6 F_6_51
        rw [by_out hA hT ho, kBd_s, d1, kBd_s, d2, kBd_s, kOpt_n]; rfl
      · unfold F_106
        rw [if_neg bn, q2, q1, isC_outT o1 hT ho, kBd_s, if_pos rfl, e71]
