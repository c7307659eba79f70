/-! draws, days -/
theorem b64 {x : Int} (h1 : -9223372036854775808 ≤ x) (h2 : x < 9223372036854775808) : x.bmod (2 ^ 64) = x := by
  apply Int.bmod_eq_of_le <;> omega
theorem d_V {s : Nat} (hs : s < 2 ^ 31) : (Int32.toInt64 (nI s) * 1103515245 + 12345).toInt = ((s * 1103515245 + 12345 : Nat) : Int) := by
  rw [Int64.toInt_add, Int64.toInt_mul, wide, nIt s hs, show (1103515245 : Int64).toInt = 1103515245 from rfl, show (12345 : Int64).toInt = 12345 from rfl, b64 (x := (s : Int) * 1103515245) (by omega) (by omega), b64 (by omega) (by omega)]
  omega
theorem d_and {X : Int64} {V : Nat} (h : X.toInt = (V : Int)) (hV : V < 2 ^ 63) : Int64.toInt32 (X &&& 2147483647) = nI (V % 2147483648) := by
  have hn : X.toBitVec.toNat = V := by
    have h2 := BitVec.toInt_eq_toNat_cond X.toBitVec
    rw [Int64.toInt_toBitVec, h] at h2
    have h3 := X.toBitVec.isLt
    by_cases q : 2 * X.toBitVec.toNat < 2 ^ 64
    · rw [if_pos q] at h2; omega
    · rw [if_neg q] at h2; omega
  apply Int32.toBitVec_inj.mp
  apply BitVec.eq_of_toNat_eq
  rw [Int64.toBitVec_toInt32, BitVec.signExtend_eq_setWidth_of_le _ (by decide), BitVec.toNat_setWidth, Int64.toBitVec_and, BitVec.toNat_and, hn]
  show (V &&& (2 ^ 31 - 1)) % 2 ^ 32 = (V % 2147483648) % 2 ^ 32
  rw [Nat.and_two_pow_sub_one_eq_mod]
theorem d_rem {X : Int64} {V : Nat} (h : X.toInt = (V : Int)) (hV : V < 2 ^ 63) : Int64.toInt32 (X - X / 2147483648 * 2147483648) = nI (V % 2147483648) := by
  have e1 : (X / 2147483648).toInt = ((V / 2147483648 : Nat) : Int) := by
    rw [Int64.toInt_div, h, show (2147483648 : Int64).toInt = ((2147483648 : Nat) : Int) from rfl, ← Int.ofNat_tdiv, Int.bmod_eq_of_le (by omega) (by omega)]
  have e2 : (X / 2147483648 * 2147483648).toInt = ((V / 2147483648 * 2147483648 : Nat) : Int) := by
    rw [Int64.toInt_mul, e1, show (2147483648 : Int64).toInt = 2147483648 from rfl, Int.bmod_eq_of_le (by omega) (by omega)]
    omega
  rw [eq32, Int64.toInt_toInt32, Int64.toInt_sub, h, e2, nIt _ (by omega), b64 (by omega) (by omega), s_bmod (by omega) (by omega)]
  omega
theorem d_num {s' n : Nat} (hs : s' < 2 ^ 31) (hn1 : 1 ≤ n) (hn : n ≤ 6) : (nI s' / 65536 - nI s' / 65536 / nI n * nI n : Int32) = nI (s' / 65536 % n) := by
  have h1 : s' / 65536 ≤ s' := Nat.div_le_self _ _
  have h2 : s' / 65536 / n ≤ s' / 65536 := Nat.div_le_self _ _
  rw [show (nI s' / 65536 : Int32) = nI (s' / 65536) from s_div (b := 65536) hs (by decide), s_div (by omega) (by omega), s_mul, s_sub (Nat.div_mul_le_self _ _), Nat.mul_comm, ← Nat.mod_def]
theorem p_draw (N : Nat) {s n : Nat} (hs : s < 2 ^ 31) (hn1 : 1 ≤ n) (hn : n ≤ 6) : ∃ s' j : Nat, s' < 2 ^ 31 ∧ j < n ∧ fX4_draw N (nI s) (nI n) = some (nI j, nI s') ∧ ∀ w : Nat → Int32, w (0 + 50) = nI s → fX8_draw N w (nI n) = some (nI j, upd w (0 + 50) (nI s')) := by
  have hV : s * 1103515245 + 12345 < 2 ^ 63 := by omega
  have hs' : (s * 1103515245 + 12345) % 2147483648 < 2 ^ 31 := Nat.mod_lt _ (by decide)
  refine ⟨(s * 1103515245 + 12345) % 2147483648, (s * 1103515245 + 12345) % 2147483648 / 65536 % n, hs', Nat.mod_lt _ (by omega), ?_, fun w hw => ?_⟩
  · unfold fX4_draw
    rw [d_and (d_V hs) hV, lt_e, if_neg (nI_nle (by omega) (by omega)), nz_nI hn1 (by omega), d_num hs' hn1 hn, lt_e]
  · have hw : w (Int32.toNatClampNeg 50) = nI s := hw
    unfold fX8_draw
    rw [ck_at (i := 50) (j := 50) rfl (by decide) (by decide), hw, d_rem (d_V hs) hV, lt_e, nz_nI hn1 (by omega), upd_at, d_num hs' hn1 hn, lt_e]
    rfl
theorem p_sbd (N : Nat) (hN : 100 ≤ N) {K C : Nat} {rlen cu cg mu mg kicks kcnt low high price wired : Nat → Int32} {worn : Int32} {damp lost stamps sales seed : Int32} {stick goods tube w : Nat → Int32} (h : RSt K C rlen cu cg mu mg tube goods stick kicks kcnt low high price wired lost stamps sales damp worn seed w 0) (hK1 : 1 ≤ K) (hC1 : 1 ≤ C) (hK : K ≤ 5) (hC : C ≤ 5) {value weight paid mvalue mweight : Nat → Int32} (hval : ∀ k, k < K → mvalue k = value k ∧ isN (value k) 1 99 ∧ mweight k = weight k ∧ isN (weight k) 10 99) (hpay : RPay K value paid) : ∃ (r : Int32) (lost' stamps' sales' seed' : Int32) (stick' goods' tube' w' : Nat → Int32), fX7_sellByDraws N (nI K) (nI C) lost stamps sales damp worn seed value price wired stick weight low high goods tube paid = some (r, lost', stamps', sales', seed', stick', goods', tube') ∧ (r = 0 ∨ r = 1) ∧ RSt K C rlen cu cg mu mg tube' goods' stick' kicks kcnt low high price wired lost' stamps' sales' damp worn seed' w' 0 ∧ (∀ j, 60 ≤ j → w' j = w j) ∧ ∀ (f : Nat) (x1 x2 x3 x4 : Int32), ¬ 4 ≤ x4 → fX8_drift_L56 N (f + 1) x1 x2 x3 x4 (nI K) (nI C) w mweight mvalue = fX8_drift_L56 N f x1 (x2 + r) x3 (x4 + 1) (nI K) (nI C) w' mweight mvalue := by
  obtain ⟨e50, s0, -, hs0, rfl⟩ := h.2.2.2.2.2.2.2.2.2.2.2.2.2.2
  obtain ⟨s1, c, hs1, hc, d1, D1⟩ := p_draw N (s := s0) (n := C) (by omega) hC1 (by omega)
  obtain ⟨s2, k, hs2, hk, d2, D2⟩ := p_draw N (s := s1) (n := K) (by omega) hK1 (by omega)
  obtain ⟨s3, m, hs3, hm, d3, D3⟩ := p_draw N (s := s2) (n := 6) (by omega) (by decide) (by decide)
  have h1 := RSt.seedU h hK hC (v := nI s1) ⟨s1, by omega, by omega, rfl⟩
  have h2 := RSt.seedU h1 hK hC (v := nI s2) ⟨s2, by omega, by omega, rfl⟩
  have h3 := RSt.seedU h2 hK hC (v := nI s3) ⟨s3, by omega, by omega, rfl⟩
  have D1 := D1 w e50
  have D2 := D2 _ (upd_at w (0 + 50) (nI s1))
  have D3 : fX8_draw N (upd (upd w (0 + 50) (nI s1)) (0 + 50) (nI s2)) 6 = _ := D3 _ (upd_at _ (0 + 50) (nI s2))
  have d3 : fX4_draw N (nI s2) 6 = _ := d3
  obtain ⟨-, s⟩ := p_sell N (by omega) h3 hK hC (by decide) hval hpay hc hk (m := m + 1) ⟨by omega, by omega⟩
  unfold fX7_sellByDraws
  rw [d1, bd_s]
  dsimp only
  rw [d2, bd_s]
  dsimp only
  rw [d3, bd_s]
  dsimp only
  rw [lt_e, nI_1]
  rcases s with ⟨q1, q2⟩ | ⟨pd, lf, l', st', sa', sk', g', t', w', e, he, q1, q2, q3, hS', hw, -⟩
  · refine ⟨0, lost, stamps, sales, nI s3, stick, goods, tube, _, ?_, .inl rfl, h3, fun j hj => by rw [upd_ne (by omega), upd_ne (by omega), upd_ne (by omega)], fun f x1 x2 x3 x4 h4 => ?_⟩
    · rw [q1, bd_s]
      rfl
    · rw [fX8_drift_L56_s, if_neg h4, D1, bd_s]
      dsimp only
      rw [D2, bd_s]
      dsimp only
      rw [D3, bd_s]
      dsimp only
      rw [lt_e, nI_1, show fX8_canBuy N (upd (upd (upd w (0 + 50) (nI s1)) (0 + 50) (nI s2)) (0 + 50) (nI s3)) mweight mvalue 0 (nI c) (nI k) (nI (m + 1)) = some 0 from q2, bd_s, if_pos rfl, lt_e, Int32.add_zero]
  · refine ⟨1, l', st', sa', nI s3, sk', g', t', w', ?_, .inr rfl, hS', fun j hj => by rw [hw j (by omega), upd_ne (by omega), upd_ne (by omega), upd_ne (by omega)], fun f x1 x2 x3 x4 h4 => ?_⟩
    · rw [q1, bd_s]
      dsimp only
      rw [if_neg (by rw [eq32, nIt pd (by omega)]; show ¬ ((pd : Int) = -1000000003); omega)]
    · rw [fX8_drift_L56_s, if_neg h4, D1, bd_s]
      dsimp only
      rw [D2, bd_s]
      dsimp only
      rw [D3, bd_s]
      dsimp only
      rw [lt_e, nI_1, show fX8_canBuy N (upd (upd (upd w (0 + 50) (nI s1)) (0 + 50) (nI s2)) (0 + 50) (nI s3)) mweight mvalue 0 (nI c) (nI k) (nI (m + 1)) = some 1 from q2, bd_s, if_neg (show ¬ (1 : Int32) = 0 by decide), show fX8_sell N (nI K) (upd (upd (upd w (0 + 50) (nI s1)) (0 + 50) (nI s2)) (0 + 50) (nI s3)) mvalue 0 (nI c) (nI k) (nI (m + 1)) = some (nI lf, w') from q3, bd_s]
      dsimp only
      rw [lt_e, lt_e]
theorem dr_in (N : Nat) (hN : 100 ≤ N) {K C : Nat} {rlen cu cg mu mg kicks kcnt low high price wired : Nat → Int32} {worn : Int32} {damp : Int32} (hK1 : 1 ≤ K) (hC1 : 1 ≤ C) (hK : K ≤ 5) (hC : C ≤ 5) {value weight paid mvalue mweight : Nat → Int32} (hval : ∀ k, k < K → mvalue k = value k ∧ isN (value k) 1 99 ∧ mweight k = weight k ∧ isN (weight k) 10 99) (hpay : RPay K value paid) (x1 x3 : Int32) : ∀ (d i f : Nat) (a : Int32) (lost stamps sales seed : Int32) (stick goods tube w : Nat → Int32), i + d = 4 → d < f → RSt K C rlen cu cg mu mg tube goods stick kicks kcnt low high price wired lost stamps sales damp worn seed w 0 → ∃ (a' : Int32) (lost' stamps' sales' seed' : Int32) (stick' goods' tube' w' : Nat → Int32), fX7_drift_L64 N f x1 a x3 (nI i) (nI K) (nI C) lost stamps sales damp worn seed value price wired stick weight low high goods tube paid = some (a', lost', stamps', sales', seed', stick', goods', tube') ∧ fX8_drift_L56 N f x1 a x3 (nI i) (nI K) (nI C) w mweight mvalue = some (a', w') ∧ RSt K C rlen cu cg mu mg tube' goods' stick' kicks kcnt low high price wired lost' stamps' sales' damp worn seed' w' 0 ∧ (∀ j, 60 ≤ j → w' j = w j) := by
  intro d
  induction d with
  | zero =>
    intro i f a lost stamps sales seed stick goods tube w hi hf h
    obtain ⟨f, rfl⟩ : ∃ g, f = g + 1 := ⟨f - 1, by omega⟩
    have h4 : (4 : Int32) ≤ nI i := (s_le (a := 4) (by decide) (by omega)).mpr (by omega)
    refine ⟨a, lost, stamps, sales, seed, stick, goods, tube, w, ?_, ?_, h, fun _ _ => rfl⟩
    · rw [fX7_drift_L64_s, if_pos h4]
    · rw [fX8_drift_L56_s, if_pos h4]
  | succ d ih =>
    intro i f a lost stamps sales seed stick goods tube w hi hf h
    obtain ⟨f, rfl⟩ : ∃ g, f = g + 1 := ⟨f - 1, by omega⟩
    have h4 : ¬ (4 : Int32) ≤ nI i := fun z => by have := (s_le (a := 4) (by decide) (by omega)).mp z; omega
    obtain ⟨r, l', st', sa', se', sk', g', t', w', e1, hr, h', hw, e2⟩ := p_sbd N hN h hK1 hC1 hK hC hval hpay
    obtain ⟨a2, l2, st2, sa2, se2, sk2, g2, t2, w2, e3, e4, h2, hw2⟩ := ih (i + 1) f (a + r) l' st' sa' se' sk' g' t' w' (by omega) (by omega) h'
    refine ⟨a2, l2, st2, sa2, se2, sk2, g2, t2, w2, ?_, ?_, h2, fun j hj => (hw2 j hj).trans (hw j hj)⟩
    · rw [fX7_drift_L64_s, if_neg h4, e1, bd_s]
      dsimp only
      rcases hr with rfl | rfl
      · rw [if_pos rfl, lt_e, lt_e, nI_1]
        exact e3
      · rw [if_neg (show ¬ (1 : Int32) = 0 by decide), lt_e, lt_e, nI_1]
        exact e3
    · rw [e2 f x1 a x3 (nI i) h4, nI_1]
      exact e4
theorem dr_out (N : Nat) (hN : 200 ≤ N) {K C : Nat} {rlen cu cg mu mg kicks kcnt low high price wired : Nat → Int32} {worn : Int32} (hK1 : 1 ≤ K) (hC1 : 1 ≤ C) (hK : K ≤ 5) (hC : C ≤ 5) {value weight paid mvalue mweight : Nat → Int32} (hval : ∀ k, k < K → mvalue k = value k ∧ isN (value k) 1 99 ∧ mweight k = weight k ∧ isN (weight k) 10 99) (hpay : RPay K value paid) {n : Nat} (hn : n ≤ 99) : ∀ (d i f : Nat) (a damp : Int32) (lost stamps sales seed : Int32) (stick goods tube w : Nat → Int32), i + d = n → d < f → RSt K C rlen cu cg mu mg tube goods stick kicks kcnt low high price wired lost stamps sales damp worn seed w 0 → ∃ (a' damp' : Int32) (lost' stamps' sales' seed' : Int32) (stick' goods' tube' w' : Nat → Int32), fX7_drift_L41 N f (nI n) a (nI i) (nI K) (nI C) lost stamps sales damp worn seed value price wired stick weight low high goods tube paid = some (a', lost', stamps', sales', damp', seed', stick', goods', tube') ∧ fX8_drift_L36 N f (nI n) a (nI i) (nI K) (nI C) w mweight mvalue = some (a', w') ∧ RSt K C rlen cu cg mu mg tube' goods' stick' kicks kcnt low high price wired lost' stamps' sales' damp' worn seed' w' 0 ∧ (∀ j, 60 ≤ j → w' j = w j) := by
  intro d
  induction d with
  | zero =>
    intro i f a damp lost stamps sales seed stick goods tube w hi hf h
    obtain ⟨f, rfl⟩ : ∃ g, f = g + 1 := ⟨f - 1, by omega⟩
    refine ⟨a, damp, lost, stamps, sales, seed, stick, goods, tube, w, ?_, ?_, h, fun _ _ => rfl⟩
    · rw [fX7_drift_L41_s, if_pos (nI_le (by omega) (by omega))]
    · rw [fX8_drift_L36_s, if_pos (nI_le (by omega) (by omega))]
  | succ d ih =>
    intro i f a damp lost stamps sales seed stick goods tube w hi hf h
    obtain ⟨f, rfl⟩ : ∃ g, f = g + 1 := ⟨f - 1, by omega⟩
    obtain ⟨e50, s0, -, hs0, rfl⟩ := h.2.2.2.2.2.2.2.2.2.2.2.2.2.2
    obtain ⟨s1, c, hs1, hc, d1, D1⟩ := p_draw N (s := s0) (n := 4) (by omega) (by decide) (by decide)
    have d1 : fX4_draw N (nI s0) 4 = _ := d1
    have D1 : fX8_draw N w 4 = _ := D1 w e50
    have h1 := RSt.seedU h hK hC (v := nI s1) ⟨s1, by omega, by omega, rfl⟩
    have h2 := RSt.dampU h1 hK hC (v := nI c) ⟨c, by omega, by omega, rfl⟩
    obtain ⟨a', l', st', sa', se', sk', g', t', w', e1, e2, h', hw⟩ := dr_in N (by omega) hK1 hC1 hK hC hval hpay (nI n) (nI i) 4 0 N a lost stamps sales (nI s1) stick goods tube _ (by omega) (by omega) h2
    obtain ⟨a2, da2, l2, st2, sa2, se2, sk2, g2, t2, w2, e3, e4, h3, hw2⟩ := ih (i + 1) f a' (nI c) l' st' sa' se' sk' g' t' w' (by omega) (by omega) h'
    refine ⟨a2, da2, l2, st2, sa2, se2, sk2, g2, t2, w2, ?_, ?_, h3, fun j hj => by rw [hw2 j hj, hw j hj, upd_ne (by omega), upd_ne (by omega)]⟩
    · rw [fX7_drift_L41_s, if_neg (nI_ge (by omega) (by omega)), d1, bd_s]
      dsimp only
      rw [show fX7_drift_L64 N N (nI n) a (nI i) 0 (nI K) (nI C) lost stamps sales (nI c) worn (nI s1) value price wired stick weight low high goods tube paid = _ from e1, bd_s]
      dsimp only
      rw [lt_e, nI_1]
      exact e3
    · rw [fX8_drift_L36_s, if_neg (nI_ge (by omega) (by omega)), D1, bd_s]
      dsimp only
      rw [ck_at (i := 48) (j := 48) rfl (by decide) (by decide), show fX8_drift_L56 N N (nI n) a (nI i) 0 (nI K) (nI C) (upd (upd w (0 + 50) (nI s1)) (Int32.toNatClampNeg 48) (nI c)) mweight mvalue = _ from e2, bd_s]
      dsimp only
      rw [lt_e, nI_1]
      exact e4
