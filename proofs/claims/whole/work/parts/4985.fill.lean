/-! the tests of fill -/
theorem t255 : ∀ i : Nat, i < 8 → (255 : Nat).testBit i = true := by
  intro i hi
  have h : ∀ i : Fin 8, (255 : Nat).testBit i.val = true := by decide +kernel
  exact h ⟨i, hi⟩
set_option maxHeartbeats 4000000 in
theorem fs_L (N : Nat) (hN : 100 ≤ N) {K C : Nat} {rlen cu cg mu mg kicks kcnt low high price wired : Nat → Int32} {damp worn seed : Int32} (hK : K ≤ 5) (hC : C ≤ 5) {value weight paid mvalue mweight : Nat → Int32} (hval : ∀ k, k < K → mvalue k = value k ∧ isN (value k) 1 99 ∧ mweight k = weight k ∧ isN (weight k) 10 99) (hpay : RPay K value paid) {n : Nat} (hn : n ≤ 8) {col kind coins mcol mkind mcoins : Nat → Int32} (hb : ∀ i, i < n → (mcol i = col i ∧ ∃ c : Nat, c < C ∧ col i = nI c) ∧ (mkind i = kind i ∧ ∃ k : Nat, k < K ∧ kind i = nI k) ∧ mcoins i = coins i ∧ isN (coins i) 1 99) : ∀ (d i f acc : Nat) (lost stamps sales : Int32) (stick goods tube w : Nat → Int32), i + d = n → d < f → acc ≤ 10000 * i → RSt K C rlen cu cg mu mg tube goods stick kicks kcnt low high price wired lost stamps sales damp worn seed w 60 → (∃ (lost' stamps' sales' : Int32) (stick' goods' tube' w' : Nat → Int32), fX7_rowServesBuyers_L65 N f (nI i) (nI K) lost stamps sales damp worn seed tube (nI n) col kind coins value price wired stick weight low high goods paid kicks kcnt = some (.inl (lost', stamps', sales', tube', stick', goods')) ∧ fX8_come_L4 N f 255 (nI acc) (nI i) (nI K) (nI n) mcol mkind mcoins w mweight mvalue = some (.inl (nI acc, w')) ∧ (∀ j, (j < 60 ∨ 120 ≤ j) → w' j = w j)) ∨ (∃ (lost' stamps' sales' : Int32) (stick' goods' tube' w' : Nat → Int32), fX7_rowServesBuyers_L65 N f (nI i) (nI K) lost stamps sales damp worn seed tube (nI n) col kind coins value price wired stick weight low high goods paid kicks kcnt = some (.inr (0, lost', stamps', sales', damp, worn, seed, tube', price, wired, stick', low, high, goods', kicks, kcnt)) ∧ (∀ j, (j < 60 ∨ 120 ≤ j) → w' j = w j) ∧ (fX8_come_L4 N f 255 (nI acc) (nI i) (nI K) (nI n) mcol mkind mcoins w mweight mvalue = some (.inr ((-1), w')) ∨ ∃ z : Nat, acc < z ∧ z ≤ 80000 ∧ fX8_come_L4 N f 255 (nI acc) (nI i) (nI K) (nI n) mcol mkind mcoins w mweight mvalue = some (.inl (nI z, w')))) := by
  intro d
  induction d with
  | zero =>
    intro i f acc lost stamps sales stick goods tube w hi hf ha hS
    obtain ⟨f, rfl⟩ : ∃ g, f = g + 1 := ⟨f - 1, by omega⟩
    left
    refine ⟨lost, stamps, sales, stick, goods, tube, w, ?_, ?_, fun _ _ => rfl⟩
    · rw [fX7_rowServesBuyers_L65_s, if_pos (nI_le (by omega) (by omega))]
    · rw [fX8_come_L4_s, if_pos (nI_le (by omega) (by omega))]
  | succ d ih =>
    intro i f acc lost stamps sales stick goods tube w hi hf ha hS
    obtain ⟨f, rfl⟩ : ∃ g, f = g + 1 := ⟨f - 1, by omega⟩
    have hbt : fX8_has N 255 (nI i) = some 1 := by
      have h := b_has N 255 (by decide) i (by omega)
      rw [t255 i (by omega), if_pos rfl] at h
      exact h
    obtain ⟨⟨ec, c, hc, e1⟩, ⟨ek, k, hk, e2⟩, em, m, hm1, hm2, e3⟩ := hb i (by omega)
    obtain ⟨hch, s⟩ := p_sell N (by omega) hS hK hC (by decide) hval hpay hc hk ⟨hm1, hm2⟩
    have eX : ∀ z, fX1_sell N (nI K) lost stamps sales damp worn value price wired stick weight low high goods tube paid (nI c) (nI k) (nI m) = some z → fX7_sellToBuyer N col kind coins (nI K) lost stamps sales damp worn value price wired stick weight low high goods tube paid (nI i) = some z := by
      intro z hz
      unfold fX7_sellToBuyer
      rw [ck_nI (by omega) (by decide), nI_clamp (by omega), e1, e2, e3, hz, bd_s]
    rw [fX7_rowServesBuyers_L65_s, if_neg (nI_ge (by omega) (by omega)), ck_nI (by omega) (by decide), nI_clamp (by omega), e1, e2, e3, hch, bd_s]
    rcases s with ⟨s1, s2⟩ | ⟨pd, lf, l', st', sa', sk', g', t', w', e, he, s1, s2, s3, hS', hw, -⟩
    · right
      have hne : ¬ (-1000000003 : Int32) = nI m * value k - price c := by
        obtain ⟨-, ⟨v, hv1, hv2, ev⟩, -, -⟩ := hval k hk
        obtain ⟨-, p, hp1, hp2, ep⟩ := hS.2.2.2.2.2.1 c hc
        have hmv : m * v ≤ 9801 := Nat.le_trans (Nat.mul_le_mul hm2 hv2) (by decide)
        rw [ev, ep, s_mul, eq32, pk_sub_toInt (by omega) (by omega)]
        show ¬ (-1000000003 : Int) = ((m * v : Nat) : Int) - (p : Int)
        omega
      refine ⟨lost, stamps, sales, stick, goods, tube, w, ?_, fun _ _ => rfl, .inl ?_⟩
      · rw [eX _ s1, bd_s]
        dsimp only
        rw [if_neg hne]
      · rw [fX8_come_L4_s, if_neg (nI_ge (by omega) (by omega)), hbt, bd_s, if_neg (show ¬ (1 : Int32) = 0 by decide), ck_nI (by omega) (by decide), nI_clamp (by omega), ec, ek, em, e1, e2, e3, show fX8_canBuy N w mweight mvalue 60 (nI c) (nI k) (nI m) = some 0 from s2, bd_s]
        rfl
    · rw [eX _ s1, bd_s]
      dsimp only
      have eM : fX8_come_L4 N (f + 1) 255 (nI acc) (nI i) (nI K) (nI n) mcol mkind mcoins w mweight mvalue = fX8_come_L4 N f 255 (nI (acc + lf)) (nI (i + 1)) (nI K) (nI n) mcol mkind mcoins w' mweight mvalue := by
        rw [fX8_come_L4_s, if_neg (nI_ge (by omega) (by omega)), hbt, bd_s, if_neg (show ¬ (1 : Int32) = 0 by decide), ck_nI (by omega) (by decide), nI_clamp (by omega), ec, ek, em, e1, e2, e3, show fX8_canBuy N w mweight mvalue 60 (nI c) (nI k) (nI m) = some 1 from s2, bd_s, if_neg (show ¬ (1 : Int32) = 0 by decide), show fX8_sell N (nI K) w mvalue 60 (nI c) (nI k) (nI m) = some (nI lf, w') from s3, bd_s]
        dsimp only
        rw [lt_e, lt_e, nI_add, nI_1]
      rw [eM, e]
      by_cases q : lf = 0
      · subst q
        rw [if_pos (show nI pd = nI (pd + 0) from rfl), lt_e, nI_1, Nat.add_zero]
        have hfr : ∀ w2 : Nat → Int32, (∀ j, (j < 60 ∨ 120 ≤ j) → w2 j = w' j) → (∀ j, (j < 60 ∨ 120 ≤ j) → w2 j = w j) := fun w2 h j hj => (h j hj).trans (hw j (by omega))
        rcases ih (i + 1) f acc l' st' sa' sk' g' t' w' (by omega) (by omega) (by omega) hS' with ⟨l2, s2, a2, k2, g2, t2, w2, z1, z2, z3⟩ | ⟨l2, s2, a2, k2, g2, t2, w2, z1, z2, z3⟩
        · exact .inl ⟨l2, s2, a2, k2, g2, t2, w2, z1, z2, hfr w2 z3⟩
        · exact .inr ⟨l2, s2, a2, k2, g2, t2, w2, z1, hfr w2 z2, z3⟩
      · right
        have hne : ¬ nI pd = nI (pd + lf) := fun z => q (by have := (nI_eq (by omega) (by omega)).mp z; omega)
        rw [if_neg hne]
        obtain ⟨l2, st2, sa2, sk2, g2, t2, w2, hS2, ho2, hor⟩ := p_come N hN hK hC hval hpay hn hb (T := 255) (by decide) d (i + 1) f (acc + lf) l' st' sa' sk' g' t' w' (by omega) (by omega) (by omega) hS'
        refine ⟨l', st', sa', sk', g', t', w2, rfl, fun j hj => (ho2 j hj).trans (hw j (by omega)), ?_⟩
        rcases hor with ⟨-, h2⟩ | ⟨acc', h1, h2, -, h4⟩
        · exact .inl h2
        · exact .inr ⟨acc', by omega, h2, h4⟩
/-- all buyers, as fill asks it -/
theorem p_fs (N : Nat) (hN : 100 ≤ N) {K C : Nat} {rlen cu cg mu mg tube goods stick kicks kcnt low high price wired : Nat → Int32} {lost stamps sales damp worn seed : Int32} {w : Nat → Int32} (hS : RSt K C rlen cu cg mu mg tube goods stick kicks kcnt low high price wired lost stamps sales damp worn seed w 60) (hK : K ≤ 5) (hC : C ≤ 5) {value weight paid mvalue mweight : Nat → Int32} (hval : ∀ k, k < K → mvalue k = value k ∧ isN (value k) 1 99 ∧ mweight k = weight k ∧ isN (weight k) 10 99) (hpay : RPay K value paid) {n : Nat} (hn : n ≤ 8) {col kind coins mcol mkind mcoins : Nat → Int32} (hb : ∀ i, i < n → (mcol i = col i ∧ ∃ c : Nat, c < C ∧ col i = nI c) ∧ (mkind i = kind i ∧ ∃ k : Nat, k < K ∧ kind i = nI k) ∧ mcoins i = coins i ∧ isN (coins i) 1 99) : (∃ (lost' stamps' sales' : Int32) (stick' goods' tube' w' : Nat → Int32), fX7_rowServesBuyers_L65 N N 0 (nI K) lost stamps sales damp worn seed tube (nI n) col kind coins value price wired stick weight low high goods paid kicks kcnt = some (.inl (lost', stamps', sales', tube', stick', goods')) ∧ fX8_come N (nI K) (nI n) mcol mkind mcoins w mweight mvalue 255 = some (0, w') ∧ (∀ j, (j < 60 ∨ 120 ≤ j) → w' j = w j)) ∨ (∃ (lost' stamps' sales' : Int32) (stick' goods' tube' w' : Nat → Int32) (z : Int32), fX7_rowServesBuyers_L65 N N 0 (nI K) lost stamps sales damp worn seed tube (nI n) col kind coins value price wired stick weight low high goods paid kicks kcnt = some (.inr (0, lost', stamps', sales', damp, worn, seed, tube', price, wired, stick', low, high, goods', kicks, kcnt)) ∧ fX8_come N (nI K) (nI n) mcol mkind mcoins w mweight mvalue 255 = some (z, w') ∧ z ≠ 0 ∧ (∀ j, (j < 60 ∨ 120 ≤ j) → w' j = w j)) := by
  rcases fs_L N hN hK hC hval hpay hn hb n 0 N 0 lost stamps sales stick goods tube w (by omega) (by omega) (by omega) hS with ⟨l2, s2, a2, k2, g2, t2, w2, z1, z2, z3⟩ | ⟨l2, s2, a2, k2, g2, t2, w2, z1, z2, z3⟩
  · left
    refine ⟨l2, s2, a2, k2, g2, t2, w2, z1, ?_, z3⟩
    unfold fX8_come
    rw [show fX8_come_L4 N N 255 0 0 (nI K) (nI n) mcol mkind mcoins w mweight mvalue = _ from z2, bd_s]
    rfl
  · right
    rcases z3 with z3 | ⟨z, z4, z5, z6⟩
    · refine ⟨l2, s2, a2, k2, g2, t2, w2, -1, z1, ?_, by decide, z2⟩
      unfold fX8_come
      rw [show fX8_come_L4 N N 255 0 0 (nI K) (nI n) mcol mkind mcoins w mweight mvalue = _ from z3, bd_s]
    · refine ⟨l2, s2, a2, k2, g2, t2, w2, nI z, z1, ?_, nI_ne0 (by omega) (by omega), z2⟩
      unfold fX8_come
      rw [show fX8_come_L4 N N 255 0 0 (nI K) (nI n) mcol mkind mcoins w mweight mvalue = _ from z6, bd_s]
/-! the reference's row with filled tubes -/
def wcp (w : Nat → Int32) (j : Nat) : Int32 := if 60 ≤ j ∧ j < 120 then w (j - 60) else w j
def wst (K : Nat) (w : Nat → Int32) (cp : Nat → Nat) (j : Nat) : Int32 := if 60 ≤ j ∧ j < 60 + K then nI (cp (j - 60)) else wcp w j
theorem wst_in {K : Nat} {w : Nat → Int32} {cp : Nat → Nat} {k : Nat} (hk : k < K) : wst K w cp (60 + k) = nI (cp k) := by
  unfold wst
  rw [if_pos ⟨by omega, by omega⟩, show 60 + k - 60 = k by omega]
theorem wst_out {K : Nat} {w : Nat → Int32} {cp : Nat → Nat} {j : Nat} (hj : j < 60 ∨ 60 + K ≤ j) : wst K w cp j = wcp w j := by
  unfold wst
  rw [if_neg (by omega)]
theorem wcp_fr {w : Nat → Int32} {j : Nat} (hj : j < 60 ∨ 120 ≤ j) : wcp w j = w j := by
  unfold wcp
  rw [if_neg (by omega)]
theorem wcp_in {w : Nat → Int32} {j : Nat} (hj : j < 60) : wcp w (60 + j) = w (0 + j) := by
  unfold wcp
  rw [if_pos ⟨by omega, by omega⟩, show 60 + j - 60 = 0 + j by omega]
def fillP (N K n : Nat) (mcol mkind mcoins mweight mvalue w : Nat → Int32) (tb : Nat → Nat) (c : Nat) : Prop := ∃ w', fX8_come N (nI K) (nI n) mcol mkind mcoins (wst K w (fun k => min 60 (tb k + rowC K c k))) mweight mvalue 255 = some (0, w')
def fillQ (N K n : Nat) (mcol mkind mcoins mweight mvalue w : Nat → Int32) (tb : Nat → Nat) (c : Nat) : Prop := (∀ k, k < K → 0 < rowC K c k → tb k + rowC K c k ≤ 60) ∧ fillP N K n mcol mkind mcoins mweight mvalue w tb c
theorem x_svL (N : Nat) {K : Nat} (hK : K ≤ 5) {r tb : Nat → Nat} {coins : Nat → Int32} (hr : ∀ k, k < K → coins k = nI (r k) ∧ r k ≤ 8) (ht : ∀ k, k < K → tb k ≤ 60) : ∀ (d i f : Nat) (tt : Nat → Int32), i + d = K → d < f → (∀ k, i ≤ k → k < K → tt k = nI (tb k)) → ∃ tt', fX7_rowServesBuyers_L13 N f (nI i) (nI K) tt coins = some tt' ∧ (∀ k, i ≤ k → k < K → tt' k = nI (min 60 (tb k + r k))) ∧ ∀ k, (k < i ∨ K ≤ k) → tt' k = tt k := by
  intro d
  induction d with
  | zero =>
    intro i f tt hi hf h
    obtain ⟨f, rfl⟩ : ∃ g, f = g + 1 := ⟨f - 1, by omega⟩
    refine ⟨tt, ?_, fun k h1 h2 => by omega, fun _ _ => rfl⟩
    rw [fX7_rowServesBuyers_L13_s, if_pos (nI_le (by omega) (by omega))]
  | succ d ih =>
    intro i f tt hi hf h
    obtain ⟨f, rfl⟩ : ∃ g, f = g + 1 := ⟨f - 1, by omega⟩
    obtain ⟨e1, e2⟩ := hr i (by omega)
    have e3 := ht i (by omega)
    have em : (if nI (tb i) + nI (r i) < 60 then nI (tb i) + nI (r i) else 60) = nI (min 60 (tb i + r i)) := by
      rw [nI_add]
      by_cases q : tb i + r i < 60
      · rw [if_pos (show nI (tb i + r i) < 60 from (s_lt (b := 60) (by omega) (by decide)).mpr q), Nat.min_eq_right (by omega)]
      · rw [if_neg (show ¬ nI (tb i + r i) < 60 from fun z => q ((s_lt (b := 60) (by omega) (by decide)).mp z)), Nat.min_eq_left (by omega)]
        rfl
    obtain ⟨tt', g1, g2, g3⟩ := ih (i + 1) f (upd tt i (nI (min 60 (tb i + r i)))) (by omega) (by omega) (fun k h1 h2 => by rw [upd_ne (by omega)]; exact h k (by omega) h2)
    refine ⟨tt', ?_, fun k h1 h2 => ?_, fun k hk => by rw [g3 k (by omega), upd_ne (by omega)]⟩
    · rw [fX7_rowServesBuyers_L13_s, if_neg (nI_ge (by omega) (by omega)), ck_nI (by omega) (by decide), nI_clamp (by omega), e1, h i (Nat.le_refl _) (by omega), em, lt_e, lt_e, nI_1]
      exact g1
    · by_cases q : k = i
      · subst q; rw [g3 k (by omega), upd_at]
      · exact g2 k (by omega) h2
set_option maxHeartbeats 4000000 in
theorem x_serve (N : Nat) (hN : 100 ≤ N) {K C : Nat} {rlen cu cg mu mg tube goods stick kicks kcnt low high price wired : Nat → Int32} {lost stamps sales damp worn seed : Int32} {w : Nat → Int32} (h0 : RSt K C rlen cu cg mu mg tube goods stick kicks kcnt low high price wired lost stamps sales damp worn seed w 0) (hK : K ≤ 5) (hC : C ≤ 5) {value weight paid mvalue mweight : Nat → Int32} (hval : ∀ k, k < K → mvalue k = value k ∧ isN (value k) 1 99 ∧ mweight k = weight k ∧ isN (weight k) 10 99) (hpay : RPay K value paid) {n : Nat} (hn : n ≤ 8) {col kind coins mcol mkind mcoins : Nat → Int32} (hb : ∀ i, i < n → (mcol i = col i ∧ ∃ c : Nat, c < C ∧ col i = nI c) ∧ (mkind i = kind i ∧ ∃ k : Nat, k < K ∧ kind i = nI k) ∧ mcoins i = coins i ∧ isN (coins i) 1 99) {tb : Nat → Nat} (ht : ∀ k, k < K → tube k = nI (tb k) ∧ tb k ≤ 60) {c : Nat} {coinsR : Nat → Int32} (hr : ∀ k, k < 5 → coinsR k = nI (rowC K c k)) (t_lost t_stamps t_sales t_damp t_worn t_seed : Int32) (t_tube t_goods t_stick t_kicks t_kcnt t_low t_high t_price t_wired : Nat → Int32) : (fillP N K n mcol mkind mcoins mweight mvalue w tb c → ∃ (r_lost r_stamps r_sales r_damp r_worn r_seed : Int32) (r_tube r_price r_wired r_stick r_low r_high r_goods r_kicks r_kcnt : Nat → Int32), fX7_rowServesBuyers N (nI K) t_lost t_stamps t_sales t_damp t_worn t_seed t_tube coinsR (nI n) col kind coins value t_price t_wired t_stick weight t_low t_high t_goods paid lost stamps sales damp worn seed tube goods stick t_kicks kicks t_kcnt kcnt low high price wired = some (1, r_lost, r_stamps, r_sales, r_damp, r_worn, r_seed, r_tube, r_price, r_wired, r_stick, r_low, r_high, r_goods, r_kicks, r_kcnt)) ∧ (¬ fillP N K n mcol mkind mcoins mweight mvalue w tb c → ∃ (r_lost r_stamps r_sales r_damp r_worn r_seed : Int32) (r_tube r_price r_wired r_stick r_low r_high r_goods r_kicks r_kcnt : Nat → Int32), fX7_rowServesBuyers N (nI K) t_lost t_stamps t_sales t_damp t_worn t_seed t_tube coinsR (nI n) col kind coins value t_price t_wired t_stick weight t_low t_high t_goods paid lost stamps sales damp worn seed tube goods stick t_kicks kicks t_kcnt kcnt low high price wired = some (0, r_lost, r_stamps, r_sales, r_damp, r_worn, r_seed, r_tube, r_price, r_wired, r_stick, r_low, r_high, r_goods, r_kicks, r_kcnt)) := by
  obtain ⟨tube', goods', stick', kicks', kcnt', low', high', price', wired', cC, hag⟩ := p_copyC N (by omega) (o_lost := t_lost) (lost := lost) (o_stamps := t_stamps) (stamps := stamps) (o_sales := t_sales) (sales := sales) (o_damp := t_damp) (damp := damp) (o_worn := t_worn) (worn := worn) (o_seed := t_seed) (seed := seed) (o_tube := t_tube) (tube := tube) (o_goods := t_goods) (goods := goods) (o_stick := t_stick) (stick := stick) (o_kicks := t_kicks) (kicks := kicks) (o_kcnt := t_kcnt) (kcnt := kcnt) (o_low := t_low) (low := low) (o_high := t_high) (high := high) (o_price := t_price) (price := price) (o_wired := t_wired) (wired := wired)
  obtain ⟨tt, g1, g2, g3⟩ := x_svL N hK (r := rowC K c) (tb := tb) (coins := coinsR) (fun k hk => ⟨hr k (by omega), rowC_le K c k⟩) (fun k hk => (ht k hk).2) K 0 N tube' (by omega) (by omega) (fun k _ hk => by rw [(hag k (by omega)).1]; exact (ht k hk).1)
  have hS0 := h0.ext hK hC hag (y := 60) (w' := wcp w) (fun j hj => wcp_in hj)
  have hS := hS0.payU hK hC (tube' := tt) (w' := wst K w (fun k => min 60 (tb k + rowC K c k))) (fun k hk => ⟨by rw [wst_in hk, g2 k (Nat.zero_le _) hk], by rw [g2 k (Nat.zero_le _) hk]; exact ⟨_, Nat.zero_le _, Nat.min_le_left _ _, rfl⟩⟩) (fun k hk => g3 k (.inr hk)) (fun j hj => wst_out hj)
  have g1 : fX7_rowServesBuyers_L13 N N 0 (nI K) tube' coinsR = some tt := g1
  unfold fX7_rowServesBuyers
  rw [cC, bd_s]
  dsimp only
  rw [g1, bd_s]
  rcases p_fs N hN hS hK hC hval hpay hn hb with ⟨l2, s2, a2, k2, g2, t2, w2, z1, z2, z3⟩ | ⟨l2, s2, a2, k2, g2, t2, w2, z, z1, z2, z3, z4⟩
  · rw [z1, bd_s]
    exact ⟨fun _ => ⟨_, _, _, _, _, _, _, _, _, _, _, _, _, _, _, rfl⟩, fun h => absurd ⟨w2, z2⟩ h⟩
  · rw [z1, bd_s]
    refine ⟨fun h => ?_, fun _ => ⟨_, _, _, _, _, _, _, _, _, _, _, _, _, _, _, rfl⟩⟩
    obtain ⟨w3, h⟩ := h
    rw [z2] at h
    simp only [Option.some.injEq, Prod.mk.injEq] at h
    exact absurd h.1 z3
theorem m_svL (N : Nat) {K : Nat} (hK : K ≤ 5) {r tb : Nat → Nat} {fo w : Nat → Int32} (hr : ∀ k, k < K → fo k = nI (r k) ∧ r k ≤ 8) (ht : ∀ k, k < K → w (0 + k) = nI (tb k) ∧ tb k ≤ 60) : ∀ (d i f : Nat), i + d = K → d < f → ((∀ k, i ≤ k → k < K → 0 < r k → tb k + r k ≤ 60) → fX8_serves_L9 N f (nI i) (nI K) (wst i w (fun k => tb k + r k)) fo = some (.inl (wst K w (fun k => tb k + r k)))) ∧ ((¬ ∀ k, i ≤ k → k < K → 0 < r k → tb k + r k ≤ 60) → ∃ w', fX8_serves_L9 N f (nI i) (nI K) (wst i w (fun k => tb k + r k)) fo = some (.inr (0, w')) ∧ (∀ j, (j < 60 ∨ 120 ≤ j) → w' j = w j)) := by
  intro d
  induction d with
  | zero =>
    intro i f hi hf
    obtain ⟨f, rfl⟩ : ∃ g, f = g + 1 := ⟨f - 1, by omega⟩
    refine ⟨fun _ => ?_, fun h => absurd (fun k z1 z2 => by omega) h⟩
    rw [fX8_serves_L9_s, if_pos (nI_le (by omega) (by omega)), show i = K by omega]
  | succ d ih =>
    intro i f hi hf
    obtain ⟨f, rfl⟩ : ∃ g, f = g + 1 := ⟨f - 1, by omega⟩
    obtain ⟨e1, e2⟩ := hr i (by omega)
    obtain ⟨e3, e4⟩ := ht i (by omega)
    obtain ⟨h1, h2⟩ := ih (i + 1) f (by omega) (by omega)
    have ew : wst i w (fun k => tb k + r k) (60 + i) = nI (tb i) := by rw [wst_out (by omega), wcp_in (by omega), e3]
    have eu : upd (wst i w (fun k => tb k + r k)) (60 + i) (nI (tb i + r i)) = wst (i + 1) w (fun k => tb k + r k) := by
      funext j
      by_cases q : j = 60 + i
      · rw [q, upd_at, wst_in (by omega)]
      · rw [upd_ne q]
        rcases Nat.lt_or_ge j 60 with z | z
        · rw [wst_out (.inl z), wst_out (.inl z)]
        · rcases Nat.lt_or_ge j (60 + i) with z2 | z2
          · obtain ⟨k, rfl⟩ : ∃ k, j = 60 + k := ⟨j - 60, by omega⟩
            rw [wst_in (by omega), wst_in (by omega)]
          · rw [wst_out (.inr z2), wst_out (.inr (by omega))]
    rw [fX8_serves_L9_s, if_neg (nI_ge (by omega) (by omega)), show (60 : Int32) + nI i = nI (60 + i) from nI_add 60 i, ck_nI (by omega) (by decide), ck_nI (by omega) (by decide), nI_clamp (by omega), nI_clamp (by omega), ew, e1, nI_add, lt_e, eu, wst_in (by omega)]
    by_cases q : r i = 0
    · have q0 : nI (r i) ≤ 0 := by rw [q]; decide
      rw [if_pos q0, lt_e, nI_1]
      refine ⟨fun hp => h1 (fun k z1 z2 z3 => hp k (by omega) z2 z3), fun hn => h2 (fun z => hn (fun k z1 z2 z3 => ?_))⟩
      by_cases e : k = i
      · rw [e, q] at z3; omega
      · exact z k (by omega) z2 z3
    · rw [if_neg (nI_nle (by omega) (by omega))]
      by_cases q2 : tb i + r i ≤ 60
      · rw [if_pos (show nI (tb i + r i) ≤ 60 from (s_le (b := 60) (by omega) (by decide)).mpr q2), lt_e, nI_1]
        refine ⟨fun hp => h1 (fun k z1 z2 z3 => hp k (by omega) z2 z3), fun hn => h2 (fun z => hn (fun k z1 z2 z3 => ?_))⟩
        by_cases e : k = i
        · rw [e]; exact q2
        · exact z k (by omega) z2 z3
      · rw [if_neg (show ¬ nI (tb i + r i) ≤ 60 from fun z => q2 ((s_le (b := 60) (by omega) (by decide)).mp z))]
        exact ⟨fun hp => absurd (hp i (Nat.le_refl _) (by omega) (by omega)) q2, fun _ => ⟨_, rfl, fun j hj => by rw [wst_out (by omega), wcp_fr hj]⟩⟩
theorem wcp_cp {N : Nat} (hN : 100 ≤ N) {w w0 : Nat → Int32} (hw : (∀ j, (j < 60 ∨ 120 ≤ j) → w j = w0 j)) : fX8_copy N w 0 60 = some (wcp w0) := by
  obtain ⟨w1, m1, m2, m3⟩ := p_copyM N hN (x := 0) (y := 60) (by decide) (by decide) (by decide) w
  rw [show fX8_copy N w 0 60 = some w1 from m1]
  congr 1
  funext j
  rcases Nat.lt_or_ge j 60 with z | z
  · rw [m3 j (.inl z), wcp_fr (.inl z), hw j (.inl z)]
  · rcases Nat.lt_or_ge j 120 with z2 | z2
    · obtain ⟨k, rfl⟩ : ∃ k, j = 60 + k := ⟨j - 60, by omega⟩
      rw [m2 k (by omega), wcp_in (by omega), hw (0 + k) (by omega)]
    · rw [m3 j (.inr (by omega)), wcp_fr (.inr z2), hw j (.inr z2)]
theorem m_serve (N : Nat) (hN : 100 ≤ N) {K C : Nat} {rlen cu cg mu mg tube goods stick kicks kcnt low high price wired : Nat → Int32} {lost stamps sales damp worn seed : Int32} {w0 : Nat → Int32} (h0 : RSt K C rlen cu cg mu mg tube goods stick kicks kcnt low high price wired lost stamps sales damp worn seed w0 0) (hK : K ≤ 5) (hC : C ≤ 5) {value weight paid mvalue mweight : Nat → Int32} (hval : ∀ k, k < K → mvalue k = value k ∧ isN (value k) 1 99 ∧ mweight k = weight k ∧ isN (weight k) 10 99) (hpay : RPay K value paid) {n : Nat} (hn : n ≤ 8) {col kind coins mcol mkind mcoins : Nat → Int32} (hb : ∀ i, i < n → (mcol i = col i ∧ ∃ c : Nat, c < C ∧ col i = nI c) ∧ (mkind i = kind i ∧ ∃ k : Nat, k < K ∧ kind i = nI k) ∧ mcoins i = coins i ∧ isN (coins i) 1 99) {tb : Nat → Nat} (ht : ∀ k, k < K → tube k = nI (tb k) ∧ tb k ≤ 60) {c : Nat} {fo w : Nat → Int32} (hr : ∀ k, k < K → fo k = nI (rowC K c k)) (hw : (∀ j, (j < 60 ∨ 120 ≤ j) → w j = w0 j)) : (fillQ N K n mcol mkind mcoins mweight mvalue w0 tb c → ∃ w', fX8_serves N (nI K) (nI n) w fo mcol mkind mcoins mweight mvalue = some (1, w') ∧ (∀ j, (j < 60 ∨ 120 ≤ j) → w' j = w0 j)) ∧ (¬ fillQ N K n mcol mkind mcoins mweight mvalue w0 tb c → ∃ w', fX8_serves N (nI K) (nI n) w fo mcol mkind mcoins mweight mvalue = some (0, w') ∧ (∀ j, (j < 60 ∨ 120 ≤ j) → w' j = w0 j)) := by
  obtain ⟨h1, h2⟩ := m_svL N hK (r := rowC K c) (tb := tb) (fo := fo) (w := w0) (fun k hk => ⟨hr k hk, rowC_le K c k⟩) (fun k hk => ⟨(h0.1 k hk).1.trans (ht k hk).1, (ht k hk).2⟩) K 0 N (by omega) (by omega)
  have e0 : wst 0 w0 (fun k => tb k + rowC K c k) = wcp w0 := by
    funext j
    exact wst_out (by omega)
  rw [e0] at h1 h2
  unfold fX8_serves
  rw [wcp_cp hN hw, bd_s]
  by_cases q : ∀ k, 0 ≤ k → k < K → 0 < rowC K c k → tb k + rowC K c k ≤ 60
  · have ec : wst K w0 (fun k => tb k + rowC K c k) = wst K w0 (fun k => min 60 (tb k + rowC K c k)) := by
      funext j
      unfold wst
      by_cases z : 60 ≤ j ∧ j < 60 + K
      · rw [if_pos z, if_pos z]
        congr 1
        show tb (j - 60) + rowC K c (j - 60) = min 60 (tb (j - 60) + rowC K c (j - 60))
        have z1 := (ht (j - 60) (by omega)).2
        by_cases z2 : 0 < rowC K c (j - 60)
        · have := q (j - 60) (Nat.zero_le _) (by omega) z2; omega
        · omega
      · rw [if_neg z, if_neg z]
    rw [show fX8_serves_L9 N N 0 (nI K) (wcp w0) fo = _ from h1 q, bd_s]
    dsimp only
    rw [ec]
    have hS0 := h0.ext hK hC (y := 60) (w' := wcp w0) (tube' := tube) (goods' := goods) (stick' := stick) (kicks' := kicks) (kcnt' := kcnt) (low' := low) (high' := high) (price' := price) (wired' := wired) (fun j hj => ⟨rfl, rfl, rfl, rfl, rfl, rfl, rfl, rfl, rfl⟩) (fun j hj => wcp_in hj)
    have hS := hS0.payU hK hC (tube' := fun k => if k < K then nI (min 60 (tb k + rowC K c k)) else tube k) (w' := wst K w0 (fun k => min 60 (tb k + rowC K c k))) (fun k hk => by
      show wst K w0 _ (60 + k) = (if k < K then nI (min 60 (tb k + rowC K c k)) else tube k) ∧ isN (if k < K then nI (min 60 (tb k + rowC K c k)) else tube k) 0 60
      rw [if_pos hk, wst_in hk]
      exact ⟨rfl, _, Nat.zero_le _, Nat.min_le_left _ _, rfl⟩) (fun k hk => by
      show (if k < K then nI (min 60 (tb k + rowC K c k)) else tube k) = tube k
      rw [if_neg (by omega)]) (fun j hj => wst_out hj)
    have hfr : ∀ w2 : Nat → Int32, (∀ j, (j < 60 ∨ 120 ≤ j) → w2 j = (wst K w0 (fun k => min 60 (tb k + rowC K c k))) j) → (∀ j, (j < 60 ∨ 120 ≤ j) → w2 j = w0 j) := fun w2 h j hj => by rw [h j hj, wst_out (by omega), wcp_fr hj]
    rcases p_fs N hN hS hK hC hval hpay hn hb with ⟨l2, s2, a2, k2, g2, t2, w2, z1, z2, z3⟩ | ⟨l2, s2, a2, k2, g2, t2, w2, z, z1, z2, z3, z4⟩
    · rw [z2, bd_s]
      dsimp only
      rw [if_pos (show (0 : Int32) = 0 from rfl)]
      exact ⟨fun _ => ⟨_, rfl, hfr _ z3⟩, fun h => absurd ⟨fun k hk => q k (Nat.zero_le _) hk, w2, z2⟩ h⟩
    · rw [z2, bd_s]
      dsimp only
      rw [if_neg z3]
      refine ⟨fun h => ?_, fun _ => ⟨_, rfl, hfr _ z4⟩⟩
      obtain ⟨-, w3, h⟩ := h
      rw [z2] at h
      simp only [Option.some.injEq, Prod.mk.injEq] at h
      exact absurd h.1 z3
  · obtain ⟨w3, g1, g2⟩ := h2 q
    rw [show fX8_serves_L9 N N 0 (nI K) (wcp w0) fo = _ from g1, bd_s]
    exact ⟨fun z => absurd (fun k _ hk => z.1 k hk) q, fun _ => ⟨_, rfl, g2⟩⟩
theorem fill_pq {N K n : Nat} {mcol mkind mcoins mweight mvalue w : Nat → Int32} {tb : Nat → Nat} (ht : ∀ k, k < K → tb k ≤ 60) {c : Nat} (hc : c < 9 ^ K) (h5 : sC K c ≤ 5) (hP : fillP N K n mcol mkind mcoins mweight mvalue w tb c) (hQ : ¬ fillQ N K n mcol mkind mcoins mweight mvalue w tb c) : ∃ c', (c' < 9 ^ K ∧ 0 ≤ sC K c' ∧ sC K c' ≤ 5) ∧ sC K c' < sC K c ∧ fillP N K n mcol mkind mcoins mweight mvalue w tb c' := by
  have hex : ∃ k, k < K ∧ 0 < rowC K c k ∧ 60 < tb k + rowC K c k := by
    refine Classical.byContradiction (fun z => hQ ⟨fun k hk hk2 => ?_, hP⟩)
    refine Classical.byContradiction (fun z2 => z ⟨k, hk, hk2, by omega⟩)
  obtain ⟨kk, hk1, hk2, hk3⟩ := hex
  obtain ⟨c', hc', er⟩ := dec1 hk1 hc (show 1 ≤ rowC K c kk by omega)
  have ejj : rowC K c' kk = rowC K c kk - 1 := by rw [er, if_pos rfl]
  have es : sC K c' + 1 = sC K c := Sv_dec (f := rowC K c) (g := rowC K c') (m := kk) (e := 1) (fun k hk => by rw [er, if_neg hk]) (by rw [ejj]; omega) K 0 (Nat.zero_le _) (by omega)
  refine ⟨c', ⟨hc', Nat.zero_le _, by omega⟩, by omega, ?_⟩
  have e : (fun k => min 60 (tb k + rowC K c' k)) = (fun k => min 60 (tb k + rowC K c k)) := by
    funext k
    by_cases q : k = kk
    · rw [q, ejj]; omega
    · rw [er, if_neg q]
  unfold fillP
  rw [e]
  exact hP
