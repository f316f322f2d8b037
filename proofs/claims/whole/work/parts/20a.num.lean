/-! numbers: everything is told as nI of a Nat below 2^31 -/
set_option maxHeartbeats 4000000 in
theorem pn_lit (n : Nat) : (no_index (@OfNat.ofNat Int32 n Int32.instOfNat)) = nI (@OfNat.ofNat Nat n (instOfNatNat n)) := rfl
set_option maxHeartbeats 4000000 in
theorem pn_add (a b : Nat) : nI a + nI b = nI (a + b) := by unfold nI; rw [Int32.ofNat_add]
set_option maxHeartbeats 4000000 in
theorem pn_mul (a b : Nat) : nI a * nI b = nI (a * b) := by unfold nI; rw [Int32.ofNat_mul]
set_option maxHeartbeats 4000000 in
theorem pn_nat {a : Nat} (h : a < 2147483648) : (nI a).toNatClampNeg = a := by
  have := nI_toInt (n := a) h
  rw [Int32.toNatClampNeg, this]; rfl
set_option maxHeartbeats 4000000 in
theorem pn_inj {a b : Nat} (ha : a < 2147483648) (hb : b < 2147483648) : (nI a = nI b) = (a = b) := by
  refine propext ⟨fun h => ?_, fun h => by rw [h]⟩
  have := congrArg Int32.toNatClampNeg h
  rwa [pn_nat ha, pn_nat hb] at this
set_option maxHeartbeats 4000000 in
theorem pn_lt {a b : Nat} (ha : a < 2147483648) (hb : b < 2147483648) : (nI a < nI b) = (a < b) := by
  refine propext ?_
  rw [Int32.lt_iff_toInt_lt, nI_toInt ha, nI_toInt hb]; omega
set_option maxHeartbeats 4000000 in
theorem pn_le {a b : Nat} (ha : a < 2147483648) (hb : b < 2147483648) : (nI a ≤ nI b) = (a ≤ b) := by
  refine propext ?_
  rw [Int32.le_iff_toInt_le, nI_toInt ha, nI_toInt hb]; omega
set_option maxHeartbeats 4000000 in
theorem pn_neg {a : Nat} (ha : a < 2147483648) : (nI a < 0) = False := by
  rw [pn_lit, pn_lt ha (by decide)]; simp
set_option maxHeartbeats 4000000 in
theorem pn_sub {a b : Nat} (h : b ≤ a) : nI a - nI b = nI (a - b) := by
  have e : nI a = nI (a - b) + nI b := by rw [pn_add]; congr 1; omega
  rw [e, Int32.add_sub_cancel]
set_option maxHeartbeats 4000000 in
theorem pn_m1 {a : Nat} (h : 1 ≤ a) : nI a + (-1) = nI (a - 1) := by
  rw [← pn_sub h]; rw [Int32.sub_eq_add_neg]; rfl
set_option maxHeartbeats 4000000 in
theorem pn_mulL (a n : Nat) : nI a * (no_index (@OfNat.ofNat Int32 n Int32.instOfNat)) = nI (a * (@OfNat.ofNat Nat n (instOfNatNat n))) := pn_mul a n
set_option maxHeartbeats 4000000 in
theorem pn_addL (a n : Nat) : nI a + (no_index (@OfNat.ofNat Int32 n Int32.instOfNat)) = nI (a + (@OfNat.ofNat Nat n (instOfNatNat n))) := pn_add a n
set_option maxHeartbeats 4000000 in
theorem pn_addR (a n : Nat) : (no_index (@OfNat.ofNat Int32 n Int32.instOfNat)) + nI a = nI ((@OfNat.ofNat Nat n (instOfNatNat n)) + a) := pn_add n a
set_option maxHeartbeats 4000000 in
theorem pn_ltL {a : Nat} (n : Nat) (ha : a < 2147483648) (hn : (@OfNat.ofNat Nat n (instOfNatNat n)) < 2147483648) : (nI a < (no_index (@OfNat.ofNat Int32 n Int32.instOfNat))) = (a < (@OfNat.ofNat Nat n (instOfNatNat n))) := pn_lt ha hn
set_option maxHeartbeats 4000000 in
theorem pn_ltR {a : Nat} (n : Nat) (ha : a < 2147483648) (hn : (@OfNat.ofNat Nat n (instOfNatNat n)) < 2147483648) : ((no_index (@OfNat.ofNat Int32 n Int32.instOfNat)) < nI a) = ((@OfNat.ofNat Nat n (instOfNatNat n)) < a) := pn_lt hn ha
set_option maxHeartbeats 4000000 in
theorem pn_leL {a : Nat} (n : Nat) (ha : a < 2147483648) (hn : (@OfNat.ofNat Nat n (instOfNatNat n)) < 2147483648) : (nI a ≤ (no_index (@OfNat.ofNat Int32 n Int32.instOfNat))) = (a ≤ (@OfNat.ofNat Nat n (instOfNatNat n))) := pn_le ha hn
set_option maxHeartbeats 4000000 in
theorem pn_leR {a : Nat} (n : Nat) (ha : a < 2147483648) (hn : (@OfNat.ofNat Nat n (instOfNatNat n)) < 2147483648) : ((no_index (@OfNat.ofNat Int32 n Int32.instOfNat)) ≤ nI a) = ((@OfNat.ofNat Nat n (instOfNatNat n)) ≤ a) := pn_le hn ha
set_option maxHeartbeats 4000000 in
theorem pn_eqL {a : Nat} (n : Nat) (ha : a < 2147483648) (hn : (@OfNat.ofNat Nat n (instOfNatNat n)) < 2147483648) : (nI a = (no_index (@OfNat.ofNat Int32 n Int32.instOfNat))) = (a = (@OfNat.ofNat Nat n (instOfNatNat n))) := pn_inj ha hn
set_option maxHeartbeats 4000000 in
theorem pn_eqR {a : Nat} (n : Nat) (ha : a < 2147483648) (hn : (@OfNat.ofNat Nat n (instOfNatNat n)) < 2147483648) : ((no_index (@OfNat.ofNat Int32 n Int32.instOfNat)) = nI a) = ((@OfNat.ofNat Nat n (instOfNatNat n)) = a) := pn_inj hn ha
set_option maxHeartbeats 4000000 in
theorem pn_subL {a : Nat} (n : Nat) (h : (@OfNat.ofNat Nat n (instOfNatNat n)) ≤ a) : nI a - (no_index (@OfNat.ofNat Int32 n Int32.instOfNat)) = nI (a - (@OfNat.ofNat Nat n (instOfNatNat n))) := pn_sub h
set_option maxHeartbeats 4000000 in
theorem pn_z : (0 : Int32).toNatClampNeg = 0 := rfl
set_option maxHeartbeats 4000000 in
theorem i01 : ((0 : Int32) = 1) = False := by decide
set_option maxHeartbeats 4000000 in
theorem i02 : ((0 : Int32) = 2) = False := by decide
set_option maxHeartbeats 4000000 in
theorem i03 : ((0 : Int32) = 3) = False := by decide
set_option maxHeartbeats 4000000 in
theorem i04 : ((0 : Int32) = 4) = False := by decide
set_option maxHeartbeats 4000000 in
theorem i10 : ((1 : Int32) = 0) = False := by decide
set_option maxHeartbeats 4000000 in
theorem i12 : ((1 : Int32) = 2) = False := by decide
set_option maxHeartbeats 4000000 in
theorem i13 : ((1 : Int32) = 3) = False := by decide
set_option maxHeartbeats 4000000 in
theorem i14 : ((1 : Int32) = 4) = False := by decide
set_option maxHeartbeats 4000000 in
theorem i20 : ((2 : Int32) = 0) = False := by decide
set_option maxHeartbeats 4000000 in
theorem i21 : ((2 : Int32) = 1) = False := by decide
set_option maxHeartbeats 4000000 in
theorem i23 : ((2 : Int32) = 3) = False := by decide
set_option maxHeartbeats 4000000 in
theorem i24 : ((2 : Int32) = 4) = False := by decide
set_option maxHeartbeats 4000000 in
theorem i30 : ((3 : Int32) = 0) = False := by decide
set_option maxHeartbeats 4000000 in
theorem i31 : ((3 : Int32) = 1) = False := by decide
set_option maxHeartbeats 4000000 in
theorem i32 : ((3 : Int32) = 2) = False := by decide
set_option maxHeartbeats 4000000 in
theorem i34 : ((3 : Int32) = 4) = False := by decide
set_option maxHeartbeats 4000000 in
theorem i40 : ((4 : Int32) = 0) = False := by decide
set_option maxHeartbeats 4000000 in
theorem i41 : ((4 : Int32) = 1) = False := by decide
set_option maxHeartbeats 4000000 in
theorem i42 : ((4 : Int32) = 2) = False := by decide
set_option maxHeartbeats 4000000 in
theorem i43 : ((4 : Int32) = 3) = False := by decide
set_option maxHeartbeats 4000000 in
theorem kGx_nI {β : Type} {k n : Nat} {r : Option β} (h : k < n) (h2 : k < 2147483648) : kGx (nI k) n r = r := by
  unfold kGx
  rw [pn_nat h2]
  rw [if_neg]
  intro h
  rcases h with h | h
  · rw [pn_neg h2] at h; exact h
  · omega
set_option maxHeartbeats 4000000 in
theorem kGx_L {β : Type} {m : Nat} (n : Nat) {r : Option β} (h : (@OfNat.ofNat Nat n (instOfNatNat n)) < m) (h2 : (@OfNat.ofNat Nat n (instOfNatNat n)) < 2147483648) : kGx (no_index (@OfNat.ofNat Int32 n Int32.instOfNat)) m r = r := kGx_nI h h2
set_option maxHeartbeats 4000000 in
theorem kGd_t {β : Type} {r : Option β} : kGd true r = r := rfl
set_option maxHeartbeats 4000000 in
theorem kBd_s {α β : Type} {r : α} {M : kM} {f : α → kM → Option β} : kBd (some (r, M)) f = f r M := rfl
set_option maxHeartbeats 4000000 in
theorem kOpt_s {β : Type} {j : Nat} {a : Option β} {f : Nat → Option β} : kOpt (some j) a f = f j := rfl
set_option maxHeartbeats 4000000 in
theorem kOpt_n {β : Type} {a : Option β} {f : Nat → Option β} : kOpt none a f = a := rfl
set_option maxHeartbeats 4000000 in
theorem kLf_s {α β : Type} {z : β} : (kLf (some z) : Option (α ⊕ β)) = some (.inr z) := rfl
set_option maxHeartbeats 4000000 in
theorem kAg_l {α β : Type} {b : α} {f : α → Option β} : kAg (some (.inl b)) f = f b := rfl
set_option maxHeartbeats 4000000 in
theorem kAg_r {α β : Type} {z : β} {f : α → Option β} : kAg (some (.inr z)) f = some z := rfl
set_option maxHeartbeats 4000000 in
theorem kAg_f {α β : Type} {x : Option β} {f : α → Option β} : kAg (kLf x) f = x := by cases x <;> rfl
set_option maxHeartbeats 4000000 in
theorem upd_eq (f : Nat → Int32) (k : Nat) (v : Int32) : upd f k v k = v := if_pos rfl
set_option maxHeartbeats 4000000 in
theorem upd_ne {f : Nat → Int32} {k i : Nat} {v : Int32} (h : i ≠ k) : upd f k v i = f i := if_neg h
set_option maxHeartbeats 4000000 in
theorem gp_ne {M : kM} {a b c d k : Nat} {v : Int32} (h : c ≠ a ∨ d ≠ b) : gp (sp M (a, b) k v) (c, d) = gp M (c, d) := gp_sp_ne (fun e => by cases e; omega)
set_option maxHeartbeats 4000000 in
theorem gpa_ne {M : kM} {a b c d : Nat} {f : Nat → Int32} (h : c ≠ a ∨ d ≠ b) : gp (sa M (a, b) f) (c, d) = gp M (c, d) := gp_sa_ne (fun e => by cases e; omega)
set_option maxHeartbeats 4000000 in
theorem sa_sa (M : kM) (l : kLb) (f g : Nat → Int32) : sa (sa M l f) l g = sa M l g := by
  unfold sa
  refine Prod.ext (funext fun l' => ?_) rfl
  by_cases h : l' = l
  · simp only [h, if_true]
  · simp only [h, if_false]
set_option maxHeartbeats 4000000 in
theorem sa_id (M : kM) (l : kLb) : sa M l (gp M l) = M := by
  unfold sa gp
  refine Prod.ext (funext fun l' => ?_) rfl
  by_cases h : l' = l
  · simp only [h, if_true]
  · simp only [h, if_false]
set_option maxHeartbeats 4000000 in
theorem lv_tm {T : kT} {t : Nat} (h : t < T.2) : kLv T (15, t) = true := decide_eq_true h
set_option maxHeartbeats 4000000 in
theorem lv_rw {T : kT} {t : Nat} (h : t < T.2) : kLv T (17, t) = true := decide_eq_true h
set_option maxHeartbeats 4000000 in
theorem lv_tb {T : kT} {t : Nat} (h : t < T.1) : kLv T (11, t) = true := decide_eq_true h
/-- a loop that fills a stretch of one array -/
def fl (g : Nat → Int32) (d w : Nat) (src : Nat → Int32) : Nat → Int32 := fun j => if d ≤ j ∧ j < d + w then src (j - d) else g j
set_option maxHeartbeats 4000000 in
theorem fl_in {g : Nat → Int32} {d w j : Nat} {src : Nat → Int32} (h : j < w) : fl g d w src (d + j) = src j := by
  unfold fl
  rw [if_pos (by omega)]
  congr 1
  omega
set_option maxHeartbeats 4000000 in
theorem fl_out {g : Nat → Int32} {d w j : Nat} {src : Nat → Int32} (h : j < d ∨ d + w ≤ j) : fl g d w src j = g j := by
  unfold fl
  rw [if_neg (by omega)]
set_option maxHeartbeats 4000000 in
theorem fl_upd {g : Nat → Int32} {d c : Nat} {src : Nat → Int32} : upd (fl g d c src) (d + c) (src c) = fl g d (c + 1) src := by
  funext j
  unfold upd fl
  by_cases h : j = d + c
  · rw [if_pos h, if_pos (by omega)]; congr 1; omega
  · rw [if_neg h]
    by_cases h2 : d ≤ j ∧ j < d + c
    · rw [if_pos h2, if_pos (by omega)]
    · rw [if_neg h2, if_neg (by omega)]
set_option maxHeartbeats 4000000 in
theorem fill {β : Type} {G : Nat → kM → Option β} {K : kM → Option β} {M : kM} {l : kLb} {d w : Nat} {src : Nat → Int32}
    (h1 : ∀ f c, c < w → (∀ j, j < d ∨ d + w ≤ j → f j = gp M l j) → G c (sa M l f) = G (c + 1) (sa M l (upd f (d + c) (src c))))
    (h2 : ∀ f, G w (sa M l f) = K (sa M l f)) : G 0 M = K (sa M l (fl (gp M l) d w src)) := by
  have key : ∀ n c, c + n = w → G c (sa M l (fl (gp M l) d c src)) = K (sa M l (fl (gp M l) d w src)) := by
    intro n
    induction n with
    | zero => intro c e; obtain rfl : c = w := by omega
              exact h2 _
    | succ n ih =>
      intro c e
      rw [h1 _ c (by omega) (fun j hj => fl_out (by omega)), fl_upd]
      exact ih (c + 1) (by omega)
  have := key w 0 (by omega)
  rwa [show fl (gp M l) d 0 src = gp M l from funext fun j => by unfold fl; rw [if_neg (by omega)], sa_id] at this
