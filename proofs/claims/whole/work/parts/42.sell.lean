theorem RSt.payU {K C : Nat} {rlen cu cg mu mg tube goods stick kicks kcnt low high price wired : Nat → Int32} {lost stamps sales damp worn seed : Int32} {w : Nat → Int32} {x : Nat} (h : RSt K C rlen cu cg mu mg tube goods stick kicks kcnt low high price wired lost stamps sales damp worn seed w x) (hK : K ≤ 5) (hC : C ≤ 5) {tube' w' : Nat → Int32} (ht : ∀ k, k < K → w' (x + k) = tube' k ∧ isN (tube' k) 0 60) (hu : ∀ k, K ≤ k → tube' k = tube k) (hw : ∀ j, (j < x ∨ x + K ≤ j) → w' j = w j) : RSt K C rlen cu cg mu mg tube' goods stick kicks kcnt low high price wired lost stamps sales damp worn seed w' x := by
  obtain ⟨h1, h2, h3, h4, h5, h6, h7, h8, h9, h10, h11, h12, h13, h14, h15⟩ := h
  exact ⟨ht, fun k hk hk2 => by rw [hw _ (by omega), hu k hk]; exact h2 k hk hk2, fun c hc => by rw [hw _ (by omega)]; exact h3 c hc, fun c hc hc2 => by rw [hw _ (by omega)]; exact h4 c hc hc2, fun c hc => by rw [hw _ (by omega)]; exact h5 c hc, fun c hc => by rw [hw _ (by omega)]; exact h6 c hc, fun c hc => by rw [hw _ (by omega), hw _ (by omega)]; exact h7 c hc, fun c hc => by rw [hw _ (by omega)]; exact h8 c hc, fun c hc => by rw [hw _ (by omega), hw _ (by omega)]; exact h9 c hc, by rw [hw _ (by omega)]; exact h10, by rw [hw _ (by omega)]; exact h11, by rw [hw _ (by omega)]; exact h12, by rw [hw _ (by omega)]; exact h13, by rw [hw _ (by omega)]; exact h14, by rw [hw _ (by omega)]; exact h15⟩
theorem RSt.stickU {K C : Nat} {rlen cu cg mu mg tube goods stick kicks kcnt low high price wired : Nat → Int32} {lost stamps sales damp worn seed : Int32} {w : Nat → Int32} {x : Nat} (h : RSt K C rlen cu cg mu mg tube goods stick kicks kcnt low high price wired lost stamps sales damp worn seed w x) (hK : K ≤ 5) (hC : C ≤ 5) {j : Nat} {v : Int32} (hj : j < C) (hs : stick j < 10) (hv : isN v 0 1000) : RSt K C rlen cu cg mu mg tube goods (upd stick j v) kicks kcnt low high price wired lost stamps sales damp worn seed (upd (upd (upd w (x + 10 + j) v) (x + 15 + j) 0) (x + 20 + j) 0) x := by
  have hz : ∀ q, q ≠ x + 10 + j → (upd (upd (upd w (x + 10 + j) v) (x + 15 + j) 0) (x + 20 + j) 0) q = w q := by
    intro q hq
    obtain ⟨m, n, b, -, -, -, -, -, -, e20, e15, hz⟩ := h.2.2.2.2.2.2.2.2.1 j hj
    obtain ⟨rfl, rfl⟩ := hz hs
    rw [Nat.zero_min] at e20
    have er : rev m 0 = 0 := by
      clear e15 hz
      induction m with
      | zero => rfl
      | succ m ih => show 0 % 2 * 2 ^ m + rev m (0 / 2) = 0; rw [Nat.zero_div, ih]; simp
    rw [er] at e15
    by_cases q1 : q = x + 20 + j
    · rw [q1, upd_at, e20]; rfl
    · rw [upd_ne q1]
      by_cases q2 : q = x + 15 + j
      · rw [q2, upd_at, e15]; rfl
      · rw [upd_ne q2, upd_ne hq]
  generalize hwe : (upd (upd (upd w (x + 10 + j) v) (x + 15 + j) 0) (x + 20 + j) 0) = w' at hz
  have hat : w' (x + 10 + j) = v := by rw [← hwe, upd_ne (by omega), upd_ne (by omega), upd_at]
  have hw := hz
  obtain ⟨h1, h2, h3, h4, h5, h6, h7, h8, h9, h10, h11, h12, h13, h14, h15⟩ := h
  exact ⟨fun k hk => by rw [hw _ (by omega)]; exact h1 k hk, fun k hk hk2 => by rw [hw _ (by omega)]; exact h2 k hk hk2, fun c hc => by rw [hw _ (by omega)]; exact h3 c hc, fun c hc hc2 => by rw [hw _ (by omega)]; exact h4 c hc hc2, fun c hc => by
    by_cases e : c = j
    · rw [e, hat, upd_at]; exact ⟨rfl, hv⟩
    · rw [hw _ (by omega), upd_ne e]; exact h5 c hc, fun c hc => by rw [hw _ (by omega)]; exact h6 c hc, fun c hc => by rw [hw _ (by omega), hw _ (by omega)]; exact h7 c hc, fun c hc => by rw [hw _ (by omega)]; exact h8 c hc, fun c hc => by
    rw [hw _ (by omega), hw _ (by omega)]
    obtain ⟨m, n, b, e1, e2, e3, e4, e5, e6, e7, e8, e9⟩ := h9 c hc
    refine ⟨m, n, b, e1, e2, e3, e4, e5, e6, e7, e8, fun z => ?_⟩
    by_cases e : c = j
    · subst e; exact e9 hs
    · rw [upd_ne e] at z; exact e9 z, by rw [hw _ (by omega)]; exact h10, by rw [hw _ (by omega)]; exact h11, by rw [hw _ (by omega)]; exact h12, by rw [hw _ (by omega)]; exact h13, by rw [hw _ (by omega)]; exact h14, by rw [hw _ (by omega)]; exact h15⟩
theorem h_int64 (a b : Int64) : a = b ↔ a.toInt = b.toInt := ⟨fun h => by rw [h], fun h => Int64.toInt_inj.mp h⟩
theorem p_held (N : Nat) {y : Int64} {a : Nat} (ha : a < 2 ^ 31) (h : y.toInt = (a : Int)) : fX8_held N y = some (nI (min a 999999999)) := by
  unfold fX8_held lg_cmp
  by_cases q : a ≤ 999999999
  · have h1 : ¬ y > 999999999 := by rw [gt_iff_lt, lt64, h]; show ¬ (999999999 : Int) < a; omega
    rw [if_neg h1, Nat.min_eq_left q]
    have h2 : ((if y = 999999999 then (0 : Int32) else -1) ≤ 0) := by
      by_cases z : y = 999999999
      · rw [if_pos z]; decide
      · rw [if_neg z]; decide
    rw [if_pos h2, lt_e]
    congr 1
    rw [eq32, Int64.toInt_toInt32, h, nIt a ha]
    exact s_bmod (by omega) (by omega)
  · have h1 : y > 999999999 := by rw [gt_iff_lt, lt64, h]; show (999999999 : Int) < a; omega
    rw [if_pos h1, if_neg (by decide), Nat.min_eq_right (by omega)]
    rfl
theorem l_add {a b : Nat} (ha : a < 2 ^ 31) (hb : b < 2 ^ 31) : (Int32.toInt64 (nI a) + Int32.toInt64 (nI b)).toInt = ((a + b : Nat) : Int) := by
  rw [Int64.toInt_add, wide, wide, nIt a ha, nIt b hb, Int.bmod_eq_of_le (by omega) (by omega)]
  omega
theorem l_addsub {a b c : Nat} (ha : a < 2 ^ 31) (hb : b < 2 ^ 31) (hc : c ≤ a + b) (hc2 : c < 2 ^ 31) : (Int32.toInt64 (nI a) + Int32.toInt64 (nI b) - Int32.toInt64 (nI c)).toInt = ((a + b - c : Nat) : Int) := by
  rw [Int64.toInt_sub, l_add ha hb, wide, nIt c hc2, Int.bmod_eq_of_le (by omega) (by omega)]
  omega
theorem x_add (x a : Nat) : nI x + nI a = nI (x + a) := nI_add x a
theorem x_add2 (x a c : Nat) : nI x + nI a + nI c = nI (x + a + c) := by rw [nI_add, nI_add]
/-- a weight within a column's span, on both sides -/
theorem p_passW (N : Nat) {K C : Nat} {rlen cu cg mu mg tube goods stick kicks kcnt low high price wired : Nat → Int32} {lost stamps sales damp worn seed : Int32} {w : Nat → Int32} {x : Nat} (h : RSt K C rlen cu cg mu mg tube goods stick kicks kcnt low high price wired lost stamps sales damp worn seed w x) (hC : C ≤ 5) (hx : x ≤ 180) {c : Nat} (hc : c < C) (y : Int32) : fX8_passes N w (nI x) (nI c) y = some (if (low c).toInt ≤ y.toInt ∧ y.toInt ≤ (high c).toInt then 1 else 0) := by
  obtain ⟨e1, -, e2, -⟩ := h.2.2.2.2.2.2.1 c hc
  unfold fX8_passes
  rw [show nI x + 30 + nI c = nI (x + 30 + c) from x_add2 x 30 c, show nI x + 35 + nI c = nI (x + 35 + c) from x_add2 x 35 c, ck_nI (by omega) (by decide), ck_nI (by omega) (by decide), nI_clamp (by omega), nI_clamp (by omega), e1, e2, p_in, bd_s, wide, wide, wide]
  by_cases q : (low c).toInt ≤ y.toInt ∧ y.toInt ≤ (high c).toInt
  · rw [if_pos q]; rfl
  · rw [if_neg q]; rfl
theorem p_weight (N : Nat) {K C : Nat} {rlen cu cg mu mg tube goods stick kicks kcnt low high price wired : Nat → Int32} {lost stamps sales damp worn seed : Int32} {w : Nat → Int32} {x : Nat} (h : RSt K C rlen cu cg mu mg tube goods stick kicks kcnt low high price wired lost stamps sales damp worn seed w x) (hx : x ≤ 180) {weight mweight : Nat → Int32} (hwe : ∀ k, k < K → mweight k = weight k) (hK : K ≤ 5) {k : Nat} (hk : k < K) : fX1_weightNow N worn weight (nI k) = some (weight k - worn) ∧ fX8_weightIn N mweight w (nI x) (nI k) = some (weight k - worn) := by
  have e := h.2.2.2.2.2.2.2.2.2.2.2.2.2.1.1
  constructor
  · unfold fX1_weightNow
    rw [ck_nI (by omega) (by decide), nI_clamp (by omega), lt_e]
  · unfold fX8_weightIn
    rw [show nI x + 49 = nI (x + 49) from x_add x 49, ck_nI (by omega) (by decide), ck_nI (by omega) (by decide), nI_clamp (by omega), nI_clamp (by omega), lt_e, e, hwe k hk]
theorem p_passes (N : Nat) {worn : Int32} {weight low high : Nat → Int32} {c k : Nat} (hc : c < 5) (hk : k < 5) : fX1_passes N worn weight low high (nI c) (nI k) = some (if (low c).toInt ≤ (weight k - worn).toInt ∧ (weight k - worn).toInt ≤ (high c).toInt then 1 else 0) := by
  unfold fX1_passes fX1_weightNow
  rw [ck_nI hk (by decide), nI_clamp (by omega), lt_e, bd_s, ck_nI hc (by decide), nI_clamp (by omega)]
  by_cases q1 : weight k - worn < low c
  · have q2 := (lt32 _ _).mp q1
    rw [if_pos q1, if_neg (by omega)]
  · have q2 : ¬ (weight k - worn).toInt < (low c).toInt := fun z => q1 ((lt32 _ _).mpr z)
    rw [if_neg q1, bd_s]
    by_cases q3 : high c < weight k - worn
    · have q4 := (lt32 _ _).mp q3
      rw [if_pos q3, if_neg (by omega)]
    · have q4 : ¬ (high c).toInt < (weight k - worn).toInt := fun z => q3 ((lt32 _ _).mpr z)
      rw [if_neg q3, if_pos (by omega)]
set_option maxHeartbeats 4000000 in
theorem p_sell (N : Nat) (hN : 10 ≤ N) {K C : Nat} {rlen cu cg mu mg tube goods stick kicks kcnt low high price wired : Nat → Int32} {lost stamps sales damp worn seed : Int32} {w : Nat → Int32} {x : Nat} (h : RSt K C rlen cu cg mu mg tube goods stick kicks kcnt low high price wired lost stamps sales damp worn seed w x) (hK : K ≤ 5) (hC : C ≤ 5) (hx : x ≤ 180) {value weight paid mvalue mweight : Nat → Int32} (hval : ∀ k, k < K → mvalue k = value k ∧ isN (value k) 1 99 ∧ mweight k = weight k ∧ isN (weight k) 10 99) (hpay : RPay K value paid) {c k m : Nat} (hc : c < C) (hk : k < K) (hm : 1 ≤ m ∧ m ≤ 99) : fX1_changeOf N value price (nI c) (nI k) (nI m) = some (nI m * value k - price c) ∧ ((fX1_sell N (nI K) lost stamps sales damp worn value price wired stick weight low high goods tube paid (nI c) (nI k) (nI m) = some ((-1000000003), lost, stamps, sales, stick, goods, tube) ∧ fX8_canBuy N w mweight mvalue (nI x) (nI c) (nI k) (nI m) = some 0) ∨ (∃ (pd left : Nat) (lost' stamps' sales' : Int32) (stick' goods' tube' w' : Nat → Int32), nI m * value k - price c = nI (pd + left) ∧ pd + left ≤ 9801 ∧ fX1_sell N (nI K) lost stamps sales damp worn value price wired stick weight low high goods tube paid (nI c) (nI k) (nI m) = some (nI pd, lost', stamps', sales', stick', goods', tube') ∧ fX8_canBuy N w mweight mvalue (nI x) (nI c) (nI k) (nI m) = some 1 ∧ fX8_sell N (nI K) w mvalue (nI x) (nI c) (nI k) (nI m) = some (nI left, w') ∧ RSt K C rlen cu cg mu mg tube' goods' stick' kicks kcnt low high price wired lost' stamps' sales' damp worn seed w' x ∧ (∀ j, (j < x ∨ x + 60 ≤ j) → w' j = w j) ∧ w' (x + 50) = w (x + 50))) := by
  have h0 := h
  obtain ⟨h1, h2, h3, h4, h5, h6, h7, h8, h9, h10, h11, h12, h13, h14, h15⟩ := h
  have hpass := p_passW N h0 hC hx hc (weight k - worn)
  have hpass2 := p_passes N (worn := worn) (weight := weight) (low := low) (high := high) (c := c) (k := k) (by omega) (by omega)
  obtain ⟨hwt1, hwt2⟩ := p_weight N h0 hx (fun k hk => (hval k hk).2.2.1) hK hk
  obtain ⟨emv, ⟨v, hv1, hv2, ev⟩, -, -⟩ := hval k hk
  obtain ⟨epw, p, hp1, hp2, ep⟩ := h6 c hc
  obtain ⟨esw, st, -, hst, es⟩ := h5 c hc
  obtain ⟨eww, d, hd, ewd⟩ := h8 c hc
  obtain ⟨egw, g, -, hg, eg⟩ := h3 d hd
  obtain ⟨etw, tk, -, htk, et⟩ := h1 k hk
  obtain ⟨elw, lo, -, hlo, el⟩ := h10
  obtain ⟨estw, sp, -, hsp, esp⟩ := h11
  obtain ⟨esaw, sa, -, hsa, esa⟩ := h12
  obtain ⟨edw, dm, -, hdm, ed⟩ := h13
  have hmv : m * v ≤ 9801 := Nat.le_trans (Nat.mul_le_mul hm.2 hv2) (by decide)
  have hch : fX1_changeOf N value price (nI c) (nI k) (nI m) = some (nI m * value k - price c) := by
    unfold fX1_changeOf
    rw [ck_nI (by omega) (by decide), ck_nI (by omega) (by decide), nI_clamp (by omega), nI_clamp (by omega), lt_e]
  refine ⟨hch, ?_⟩
  have hjam : fX4_isJammed N stick (nI c) = some (if st < 10 then 0 else 1) := by
    unfold fX4_isJammed
    rw [ck_nI (by omega) (by decide), nI_clamp (by omega), es]
    by_cases q : st < 10
    · rw [if_pos q, if_pos (show nI st < 10 from (s_lt (b := 10) (by omega) (by decide)).mpr q)]
    · rw [if_neg q, if_neg (show ¬ nI st < 10 from fun z => q ((s_lt (b := 10) (by omega) (by decide)).mp z))]
  have ec : nI m * value k - price c = nI (m * v) - nI p := by rw [ev, ep, s_mul]
  have A10 : nI x + 10 + nI c = nI (x + 10 + c) := x_add2 x 10 c
  have A25 : nI x + 25 + nI c = nI (x + 25 + c) := x_add2 x 25 c
  have A40 : nI x + 40 + nI c = nI (x + 40 + c) := x_add2 x 40 c
  have A5 : nI x + 5 + nI d = nI (x + 5 + d) := x_add2 x 5 d
  have hlt : (nI (m * v) - nI p < 0) ↔ m * v < p := by
    rw [lt32, pk_sub_toInt (by omega) (by omega)]
    show (m * v : Nat) - (p : Int) < 0 ↔ _
    omega
  unfold fX1_sell fX8_canBuy
  rw [hch, bd_s, ck_nI (by omega) (by decide), lt_e, hjam, bd_s, nI_clamp (show c < 2 ^ 31 by omega), A10, A25, A40, ck_nI (show x + 10 + c < 240 by omega) (by decide), ck_nI (show x + 25 + c < 240 by omega) (by decide), ck_nI (show x + 40 + c < 240 by omega) (by decide), nI_clamp (show x + 10 + c < 2 ^ 31 by omega), nI_clamp (show x + 25 + c < 2 ^ 31 by omega), nI_clamp (show x + 40 + c < 2 ^ 31 by omega), esw, epw, eww, es, ewd, A5, ck_nI (show x + 5 + d < 240 by omega) (by decide), nI_clamp (show x + 5 + d < 2 ^ 31 by omega), egw, ck_nI (show d < 5 by omega) (by decide), nI_clamp (show d < 2 ^ 31 by omega), ck_nI (show k < 10 by omega) (by decide), nI_clamp (show k < 2 ^ 31 by omega), hwt2, bd_s, hpass, bd_s, hpass2, bd_s, emv, ec, ev, ep, eg, s_mul]
  have g1 : (10 : Int32) ≤ nI st ↔ 10 ≤ st := s_le (a := 10) (by decide) (by omega)
  by_cases q1 : st < 10
  case neg =>
    left
    rw [if_neg q1, if_neg (show ¬ (1 : Int32) = 0 by decide), if_pos (g1.mpr (by omega))]
    exact ⟨rfl, rfl⟩
  rw [if_pos q1, if_pos (show (0 : Int32) = 0 from rfl), if_neg (show ¬ (10 : Int32) ≤ nI st from fun z => by have := g1.mp z; omega)]
  by_cases q2 : (low c).toInt ≤ (weight k - worn).toInt ∧ (weight k - worn).toInt ≤ (high c).toInt
  case neg =>
    left
    rw [if_neg q2, if_pos (show (0 : Int32) = 0 from rfl), if_pos (show (0 : Int32) = 0 from rfl)]
    exact ⟨rfl, rfl⟩
  rw [if_pos q2, if_neg (show ¬ (1 : Int32) = 0 by decide), if_neg (show ¬ (1 : Int32) = 0 by decide)]
  by_cases q3 : m * v < p
  case pos =>
    left
    rw [if_pos (hlt.mpr q3), if_pos ((s_lt (by omega) (by omega)).mpr q3)]
    exact ⟨rfl, rfl⟩
  rw [if_neg (fun z => q3 (hlt.mp z)), if_neg (fun z => q3 ((s_lt (by omega) (by omega)).mp z))]
  by_cases q4 : g = 0
  case pos =>
    left
    rw [q4, if_pos (show nI 0 = 0 from rfl), if_pos (show nI 0 ≤ 0 by decide)]
    exact ⟨rfl, rfl⟩
  right
  rw [if_neg (show ¬ nI g = 0 from fun z => q4 ((nI_eq (b := 0) (by omega) (by decide)).mp z)), if_neg (show ¬ nI g ≤ 0 from fun z => q4 (by have := (s_le (b := 0) (by omega) (by decide)).mp z; omega))]
  rw [s_sub (show p ≤ m * v by omega), s_sub1 (show 1 ≤ g by omega), lt_e]
  -- what comes in
  have hin : fX4_takeIn N lost tube (nI k) (nI m) = some (nI (min (lo + (tk + m - min 60 (tk + m))) 999999999), upd tube k (nI (min 60 (tk + m)))) := by
    unfold fX4_takeIn
    rw [ck_nI (by omega) (by decide), nI_clamp (by omega), et, el, nI_add]
    have e60 : (nI (tk + m) - 60).toInt = ((tk + m : Nat) : Int) - 60 := by
      rw [show nI (tk + m) - 60 = nI (tk + m) - nI 60 from rfl, pk_sub_toInt (by omega) (by decide)]; rfl
    by_cases q : 60 < tk + m
    · rw [if_pos (by rw [lt32, e60]; show (0 : Int) < _; omega), show nI (tk + m) - 60 = nI (tk + m - 60) from s_sub (a := tk + m) (b := 60) (by omega), lt_e, lt_e, lt_e, s_sub (show tk + m - 60 ≤ m by omega), nI_add, nI_add, Nat.min_eq_left (show 60 ≤ tk + m by omega), show tk + (m - (tk + m - 60)) = 60 by omega]
      by_cases q2 : lo + (tk + m - 60) < 999999999
      · rw [if_pos (show nI (lo + (tk + m - 60)) < 999999999 from (s_lt (b := 999999999) (by omega) (by decide)).mpr q2), Nat.min_eq_left (by omega)]
      · rw [if_neg (show ¬ nI (lo + (tk + m - 60)) < 999999999 from fun z => q2 ((s_lt (b := 999999999) (by omega) (by decide)).mp z)), Nat.min_eq_right (by omega)]
        rfl
    · rw [if_neg (by rw [lt32, e60]; show ¬ (0 : Int) < _; omega), lt_e, lt_e, lt_e, show nI m - 0 = nI m from s_sub (b := 0) (by omega), nI_add, show nI lo + 0 = nI lo from nI_add lo 0, Nat.min_eq_right (show tk + m ≤ 60 by omega), Nat.sub_self, Nat.add_zero]
      by_cases q2 : lo < 999999999
      · rw [if_pos (show nI lo < 999999999 from (s_lt (b := 999999999) (by omega) (by decide)).mpr q2), Nat.min_eq_left (by omega)]
      · rw [if_neg (show ¬ nI lo < 999999999 from fun z => q2 ((s_lt (b := 999999999) (by omega) (by decide)).mp z)), Nat.min_eq_right (by omega)]
        rfl
  obtain ⟨σ, hσ, hord⟩ := hpay
  have hV : ∀ k, k < K → value k = nI (value k).toNatClampNeg ∧ 1 ≤ (value k).toNatClampNeg ∧ (value k).toNatClampNeg ≤ 99 := by
    intro k hk
    obtain ⟨-, ⟨v, hv1, hv2, ev⟩, -, -⟩ := hval k hk
    rw [ev, nI_clamp (by omega)]
    exact ⟨rfl, hv1, hv2⟩
  have hT0 : ∀ q, q < K → (upd tube k (nI (min 60 (tk + m)))) q = nI ((upd tube k (nI (min 60 (tk + m)))) q).toNatClampNeg ∧ ((upd tube k (nI (min 60 (tk + m)))) q).toNatClampNeg ≤ 60 := by
    intro q hq
    by_cases e : q = k
    · rw [e, upd_at, nI_clamp (by omega)]; exact ⟨rfl, by omega⟩
    · rw [upd_ne e]
      obtain ⟨-, t, -, ht, e⟩ := h1 q hq
      rw [e, nI_clamp (by omega)]; exact ⟨rfl, ht⟩
  generalize hnt : (fun q => ((upd tube k (nI (min 60 (tk + m)))) q).toNatClampNeg) = nt
  have hT1 : ∀ q, q < K → (upd tube k (nI (min 60 (tk + m)))) q = nI (nt q) ∧ nt q ≤ 60 := by
    intro q hq; rw [← hnt]; exact hT0 q hq
  -- the reference's coming in
  have S1 := RSt.goods h0 hK hC hd (v := nI (g - 1)) ⟨g - 1, by omega, by omega, rfl⟩
  have S2 := RSt.tubeU S1 hK hC hk (v := nI (min 60 (tk + m))) ⟨min 60 (tk + m), by omega, by omega, rfl⟩
  have S3 := RSt.lostU S2 hK hC (v := nI (min (lo + (tk + m - min 60 (tk + m))) 999999999)) ⟨_, Nat.zero_le _, Nat.min_le_right _ _, rfl⟩
  have hput : fX8_putIn N (upd w (x + 5 + d) (nI (g - 1))) (nI x) (nI k) (nI m) = some (upd (upd (upd w (x + 5 + d) (nI (g - 1))) (x + k) (nI (min 60 (tk + m)))) (x + 45) (nI (min (lo + (tk + m - min 60 (tk + m))) 999999999))) := by
    unfold fX8_putIn
    rw [nI_add, show nI x + 45 = nI (x + 45) from x_add x 45, ck_nI (by omega) (by decide), nI_clamp (show x + k < 2 ^ 31 by omega), upd_ne (show x + k ≠ x + 5 + d by omega), etw, et, nI_add, lt_e, ck_nI (show x + 45 < 240 by omega) (by decide), ck_nI (show x + 45 < 240 by omega) (by decide), nI_clamp (show x + 45 < 2 ^ 31 by omega)]
    by_cases q : tk + m ≤ 60
    · rw [if_pos (show nI (tk + m) ≤ 60 from (s_le (b := 60) (by omega) (by decide)).mpr q), upd_at, upd_ne (show x + 45 ≠ x + k by omega), upd_ne (show x + 45 ≠ x + 5 + d by omega), elw, el, p_held N (a := lo + (tk + m) - (tk + m)) (by omega) (l_addsub (by omega) (by omega) (by omega) (by omega)), bd_s, Nat.min_eq_right q, Nat.sub_self, Nat.add_sub_cancel]
      rfl
    · rw [if_neg (show ¬ nI (tk + m) ≤ 60 from fun z => q ((s_le (b := 60) (by omega) (by decide)).mp z)), upd_at, upd_ne (show x + 45 ≠ x + k by omega), upd_ne (show x + 45 ≠ x + 5 + d by omega), elw, el, show (60 : Int32) = nI 60 from rfl, p_held N (a := lo + (tk + m) - 60) (by omega) (l_addsub (by omega) (by omega) (by omega) (by omega)), bd_s, Nat.min_eq_left (show 60 ≤ tk + m by omega), show lo + (tk + m) - 60 = lo + (tk + m - 60) by omega]
  rw [hin, bd_s]
  dsimp only
  obtain ⟨tube', c1, c2, c3⟩ := pay_c N hK hV hσ (nI (m * v - p)) K 0 N (m * v - p) nt (upd tube k (nI (min 60 (tk + m)))) (by omega) (by omega) (by omega) (fun q hq => ⟨(hT1 q hq).1, Nat.le_trans (hT1 q hq).2 (by decide)⟩)
  obtain ⟨w', m1, m2, m3⟩ := pay_m N hN hK (fun k hk => (hval k hk).1) hV (fun i hi => (hσ i hi).1) hord hx K 0 N (m * v - p) 0 nt (upd (upd (upd w (x + 5 + d) (nI (g - 1))) (x + k) (nI (min 60 (tk + m)))) (x + 45) (nI (min (lo + (tk + m - min 60 (tk + m))) 999999999))) (by omega) (by omega) (by omega) (by decide) (fun q hq => ⟨fun z => absurd z (by simp), fun ⟨j, hj, _⟩ => by omega⟩) (fun q hq => ⟨by rw [(S3.1 q hq).1, (hT1 q hq).1], Nat.le_trans (hT1 q hq).2 (by decide)⟩)
  have hle := payL_le σ (fun k => (value k).toNatClampNeg) K 0 (m * v - p) nt
  generalize payL σ (fun k => (value k).toNatClampNeg) K 0 (m * v - p) nt = R at c1 c2 m1 m2 hle
  obtain ⟨lf, nt'⟩ := R
  have hle1 : lf ≤ m * v - p := hle.1
  have hpb : fX1_payBack N (nI K) (upd tube k (nI (min 60 (tk + m)))) paid value (nI (m * v - p)) = some (nI (m * v - p - lf), tube') := by
    unfold fX1_payBack
    rw [show fX1_payBack_L5 N N (nI (m * v - p)) (nI (m * v - p)) 0 (nI K) (upd tube k (nI (min 60 (tk + m)))) paid value = some (nI lf, tube') from c1, bd_s]
    dsimp only
    rw [lt_e, s_sub hle1]
  rw [hpb, bd_s]
  dsimp only
  have S4 := RSt.payU S3 hK hC (tube' := tube') (w' := w') (fun q hq => ⟨by rw [c2 q hq, m2 q hq], ⟨nt' q, by omega, Nat.le_trans (hle.2 q) (hT1 q hq).2, c2 q hq⟩⟩) (fun q hq => c3 q hq) m3
  have e46 : w' (x + 46) = nI sp := by rw [S4.2.2.2.2.2.2.2.2.2.2.1.1, esp]
  have e47 : w' (x + 47) = nI sa := by rw [S4.2.2.2.2.2.2.2.2.2.2.2.1.1, esa]
  have S5 := RSt.stampsU S4 hK hC (v := nI (min (sp + lf) 999999999)) ⟨_, Nat.zero_le _, Nat.min_le_right _ _, rfl⟩
  have S6 := RSt.salesU S5 hK hC (v := nI (min (sa + 1) 999999999)) ⟨_, Nat.zero_le _, Nat.min_le_right _ _, rfl⟩
  have hdm2 : dm * m ≤ 891 := Nat.le_trans (Nat.mul_le_mul hdm hm.2) (by decide)
  have S7 := RSt.stickU S6 hK hC hc (by rw [es]; exact (s_lt (b := 10) (by omega) (by decide)).mpr q1) (v := nI (st + dm * m)) ⟨_, by omega, by omega, rfl⟩
  have sst : (if stamps + nI (m * v - p) - nI (m * v - p - lf) < 999999999 then stamps + nI (m * v - p) - nI (m * v - p - lf) else 999999999) = nI (min (sp + lf) 999999999) := by
    rw [esp, nI_add, s_sub (by omega), show sp + (m * v - p) - (m * v - p - lf) = sp + lf by omega]
    by_cases q : sp + lf < 999999999
    · rw [if_pos (show nI (sp + lf) < 999999999 from (s_lt (b := 999999999) (by omega) (by decide)).mpr q), Nat.min_eq_left (by omega)]
    · rw [if_neg (show ¬ nI (sp + lf) < 999999999 from fun z => q ((s_lt (b := 999999999) (by omega) (by decide)).mp z)), Nat.min_eq_right (by omega)]
      rfl
  have ssa : (if sales + 1 < 999999999 then sales + 1 else 999999999) = nI (min (sa + 1) 999999999) := by
    rw [esa, nI_1]
    by_cases q : sa + 1 < 999999999
    · rw [if_pos (show nI (sa + 1) < 999999999 from (s_lt (b := 999999999) (by omega) (by decide)).mpr q), Nat.min_eq_left (by omega)]
    · rw [if_neg (show ¬ nI (sa + 1) < 999999999 from fun z => q ((s_lt (b := 999999999) (by omega) (by decide)).mp z)), Nat.min_eq_right (by omega)]
      rfl
  rw [sst, ssa, lt_e, lt_e, lt_e, ed, s_mul, nI_add]
  rw [ed] at S7
  refine ⟨m * v - p - lf, lf, _, _, _, _, _, _, _, by rw [show m * v - p - lf + lf = m * v - p by omega], by omega, rfl, rfl, ?_, S7, ?_, ?_⟩
  · unfold fX8_sell
    rw [A40, ck_nI (show x + 40 + c < 240 by omega) (by decide), nI_clamp (show x + 40 + c < 2 ^ 31 by omega), eww, ewd, A5, ck_nI (show x + 5 + d < 240 by omega) (by decide), nI_clamp (show x + 5 + d < 2 ^ 31 by omega), egw, eg, s_sub1 (show 1 ≤ g by omega), lt_e, hput, bd_s, ck_nI (show k < 10 by omega) (by decide), A25, ck_nI (show x + 25 + c < 240 by omega) (by decide), nI_clamp (show x + 25 + c < 2 ^ 31 by omega), nI_clamp (show k < 2 ^ 31 by omega), emv, ev, s_mul, (S3.2.2.2.2.2.1 c hc).1, ep, s_sub (show p ≤ m * v by omega)]
    have hpm : fX8_payBack N (nI K) mvalue (upd (upd (upd w (x + 5 + d) (nI (g - 1))) (x + k) (nI (min 60 (tk + m)))) (x + 45) (nI (min (lo + (tk + m - min 60 (tk + m))) 999999999))) (nI x) (nI (m * v - p)) = some (nI lf, w') := by
      unfold fX8_payBack
      rw [show fX8_payBack_L8 N N (nI x) (nI (m * v - p)) 0 0 (nI K) mvalue (upd (upd (upd w (x + 5 + d) (nI (g - 1))) (x + k) (nI (min 60 (tk + m)))) (x + 45) (nI (min (lo + (tk + m - min 60 (tk + m))) 999999999))) = some (nI lf, w') from m1, bd_s]
    rw [hpm, bd_s]
    dsimp only
    rw [show nI x + 46 = nI (x + 46) from x_add x 46, show nI x + 47 = nI (x + 47) from x_add x 47, show nI x + 48 = nI (x + 48) from x_add x 48, A10, show nI x + 15 + nI c = nI (x + 15 + c) from x_add2 x 15 c, show nI x + 20 + nI c = nI (x + 20 + c) from x_add2 x 20 c, ck_nI (show x + 46 < 240 by omega) (by decide), nI_clamp (show x + 46 < 2 ^ 31 by omega), nI_clamp (show x + 47 < 2 ^ 31 by omega), nI_clamp (show x + 48 < 2 ^ 31 by omega), nI_clamp (show x + 10 + c < 2 ^ 31 by omega), nI_clamp (show x + 15 + c < 2 ^ 31 by omega), nI_clamp (show x + 20 + c < 2 ^ 31 by omega), e46, p_held N (a := sp + lf) (by omega) (l_add (by omega) (by omega)), bd_s, ck_nI (show x + 47 < 240 by omega) (by decide), upd_ne (show x + 47 ≠ x + 46 by omega), e47, p_held N (y := (nI sa).toInt64 + 1) (a := sa + 1) (by omega) (l_add (a := sa) (b := 1) (by omega) (by decide)), bd_s, ck_nI (show x + 10 + c < 240 by omega) (by decide), ck_nI (show x + 48 < 240 by omega) (by decide), lt_e, (S6.2.2.2.2.1 c hc).1, S6.2.2.2.2.2.2.2.2.2.2.2.2.1.1, es, ed, s_mul, nI_add, ck_nI (show x + 15 + c < 240 by omega) (by decide), ck_nI (show x + 20 + c < 240 by omega) (by decide)]
  · intro j hj
    rw [upd_ne (by omega), upd_ne (by omega), upd_ne (by omega), upd_ne (by omega), upd_ne (by omega), m3 j (by omega), upd_ne (by omega), upd_ne (by omega), upd_ne (by omega)]
  · rw [upd_ne (by omega), upd_ne (by omega), upd_ne (by omega), upd_ne (by omega), upd_ne (by omega), m3 _ (by omega), upd_ne (by omega), upd_ne (by omega), upd_ne (by omega)]
