/-! clauses -/
theorem fl12 {fl : Int32} (h : fl = 1 ∨ fl = 2) : ¬ fl = 0 ∧ ¬ fl ≤ 0 := by rcases h with rfl | rfl <;> decide
theorem ref_ok (N : Nat) {K : Nat} (hK : K < 5) (t fl fa : Int32) : fX2_refuseSixth N t fl fa (nI K) 5 = some (fl, fa) := by
  unfold fX2_refuseSixth
  rw [if_pos (show nI K < 5 from (s_lt (b := 5) (by omega) (by decide)).mpr hK)]
theorem ref_no (N : Nat) (t fa : Int32) : fX2_refuseSixth N t 0 fa (nI 5) 5 = some (3, t) := by
  unfold fX2_refuseSixth
  rw [if_neg (show ¬ nI 5 < 5 by decide), fail_0, bd_s]
/-! the order of paying: one kind more -/
theorem ak_L (N : Nat) {K : Nat} (hK : K < 5) {value : Nat → Int32} {σ : Nat → Nat} (hσ : ∀ i, i < K → σ i < K) (x1 : Int32) : ∀ (pl f : Nat) (g : Nat → Int32), pl ≤ K → pl < f → (∀ i, i < pl → g i = nI (σ i)) → (∀ i, pl < i → i ≤ K → g i = nI (σ (i - 1))) → (∀ i, pl ≤ i → i < K → value (σ i) < x1) → ∃ (pl' : Nat) (g' : Nat → Int32), fX1_addKind_L34 N f x1 (nI pl) value g = some (nI pl', g') ∧ pl' ≤ K ∧ (∀ i, i < pl' → g' i = nI (σ i)) ∧ (∀ i, pl' < i → i ≤ K → g' i = nI (σ (i - 1))) ∧ (∀ i, pl' ≤ i → i < K → value (σ i) < x1) ∧ (0 < pl' → x1 ≤ value (σ (pl' - 1))) := by
  intro pl
  induction pl with
  | zero =>
    intro f g h1 hf h2 h3 h4
    obtain ⟨f, rfl⟩ : ∃ g, f = g + 1 := ⟨f - 1, by omega⟩
    refine ⟨0, g, ?_, by omega, h2, h3, h4, fun z => by omega⟩
    rw [fX1_addKind_L34_s, if_pos (show nI 0 ≤ 0 by decide)]
  | succ pl ih =>
    intro f g h1 hf h2 h3 h4
    obtain ⟨f, rfl⟩ : ∃ g, f = g + 1 := ⟨f - 1, by omega⟩
    have hs := hσ pl (by omega)
    rw [fX1_addKind_L34_s, if_neg (nI_nle (by omega) (by omega)), nI_pred, ck_nI (by omega) (by decide), nI_clamp (by omega), h2 pl (by omega), ck_nI (by omega) (by decide), nI_clamp (by omega)]
    by_cases q : x1 ≤ value (σ pl)
    · rw [if_pos q]
      exact ⟨pl + 1, g, rfl, h1, h2, h3, h4, fun _ => q⟩
    · rw [if_neg q, lt_e, ck_nI (by omega) (by decide), lt_e, dn_1, nI_clamp (by omega)]
      refine ih f (upd g (pl + 1) (nI (σ pl))) (by omega) (by omega) (fun i hi => by rw [upd_ne (by omega)]; exact h2 i (by omega)) (fun i hi hi2 => ?_) (fun i hi hi2 => ?_)
      · by_cases e : i = pl + 1
        · rw [e, upd_at]; rfl
        · rw [upd_ne e]; exact h3 i (by omega) hi2
      · by_cases e : i = pl
        · rw [e, lt32]
          rw [le32] at q
          omega
        · exact h4 i (by omega) hi2
theorem t_addKind (N : Nat) (hN : 10 ≤ N) {K : Nat} (hK : K < 5) {value paid : Nat → Int32} (hpay : RPay K value paid) (x1 x2 : Int32) (weight : Nat → Int32) : ∃ paid', fX1_addKind N (nI K) value paid weight x1 x2 = some (nI (K + 1), upd value K x1, paid', upd weight K x2) ∧ RPay (K + 1) (upd value K x1) paid' := by
  obtain ⟨σ, hσ, hord⟩ := hpay
  have ev : ∀ i, i < K → upd value K x1 (σ i) = value (σ i) := fun i hi => upd_ne (by have := (hσ i hi).1; omega)
  obtain ⟨pl, g, e1, e2, e3, e4, e5, e6⟩ := ak_L N hK (value := upd value K x1) (σ := σ) (fun i hi => (hσ i hi).1) x1 K N paid (Nat.le_refl _) (by omega) (fun i hi => (hσ i hi).2) (fun i h1 h2 => by omega) (fun i h1 h2 => by omega)
  refine ⟨upd g pl (nI K), ?_, fun i => if i < pl then σ i else if i = pl then K else σ (i - 1), fun i hi => ?_, fun i j hij hj => ?_⟩
  · unfold fX1_addKind
    rw [if_pos (show nI K < 5 from (s_lt (b := 5) (by omega) (by decide)).mpr hK), ck_nI (by omega) (by decide), nI_clamp (by omega), e1, bd_s]
    dsimp only
    rw [ck_nI (by omega) (by decide), lt_e, nI_1, nI_clamp (by omega)]
  · show (if i < pl then σ i else if i = pl then K else σ (i - 1)) < K + 1 ∧ upd g pl (nI K) i = nI (if i < pl then σ i else if i = pl then K else σ (i - 1))
    by_cases q1 : i < pl
    · have := (hσ i (by omega)).1
      rw [if_pos q1, upd_ne (by omega), e3 i q1]
      exact ⟨by omega, rfl⟩
    · rw [if_neg q1]
      by_cases q2 : i = pl
      · rw [if_pos q2, q2, upd_at]
        exact ⟨by omega, rfl⟩
      · have := (hσ (i - 1) (by omega)).1
        rw [if_neg q2, upd_ne q2, e4 i (by omega) (by omega)]
        exact ⟨by omega, rfl⟩
  · show (upd value K x1 (if j < pl then σ j else if j = pl then K else σ (j - 1))).toInt < (upd value K x1 (if i < pl then σ i else if i = pl then K else σ (i - 1))).toInt ∨ ((upd value K x1 (if j < pl then σ j else if j = pl then K else σ (j - 1))).toInt = (upd value K x1 (if i < pl then σ i else if i = pl then K else σ (i - 1))).toInt ∧ (if i < pl then σ i else if i = pl then K else σ (i - 1)) < (if j < pl then σ j else if j = pl then K else σ (j - 1)))
    by_cases qi : i < pl
    · rw [if_pos qi, ev i (by omega)]
      by_cases qj : j < pl
      · rw [if_pos qj, ev j (by omega)]
        exact hord i j hij (by omega)
      · rw [if_neg qj]
        by_cases qj2 : j = pl
        · rw [if_pos qj2, upd_at]
          have h6 := e6 (by omega)
          rw [ev (pl - 1) (by omega), le32] at h6
          have h7 : (value (σ (pl - 1))).toInt ≤ (value (σ i)).toInt := by
            by_cases z : i = pl - 1
            · rw [z]; exact Int.le_refl _
            · have := hord i (pl - 1) (by omega) (by omega)
              omega
          have h8 := (hσ i (by omega)).1
          omega
        · rw [if_neg qj2, ev (j - 1) (by omega)]
          exact hord i (j - 1) (by omega) (by omega)
    · rw [if_neg qi]
      by_cases qi2 : i = pl
      · rw [if_pos qi2, if_neg (show ¬ j < pl by omega), if_neg (show ¬ j = pl by omega), upd_at]
        left
        exact (lt32 _ _).mp (e5 (j - 1) (by omega) (by omega))
      · rw [if_neg qi2, if_neg (show ¬ j < pl by omega), if_neg (show ¬ j = pl by omega), ev (i - 1) (by omega), ev (j - 1) (by omega)]
        exact hord (i - 1) (j - 1) (by omega) (by omega)
theorem x_coin6 (N : Nat) (a t fa n : Int32) (fb tube value paid weight : Nat → Int32) : fX2_readCoin N a t 0 fa (nI 5) n fb tube value paid weight = some (a, t, 3, t, nI 5, tube, value, paid, weight) := by
  unfold fX2_readCoin
  rw [ref_no, bd_s]
  dsimp only
  rw [xnum_f N (by decide), bd_s]
  dsimp only
  rw [xnum_f N (by decide), bd_s]
  dsimp only
  rw [xnum_f N (by decide), bd_s]
  dsimp only
  rw [xend_f N (by decide), bd_s]
  dsimp only
  rw [if_neg (show ¬ (3 : Int32) = 0 by decide)]
set_option maxHeartbeats 4000000 in
theorem t_coin (N : Nat) (hN : 1000 ≤ N) {n : Nat} {B : Nat → Nat} {fb tx : Nat → Int32} (h : TX n B fb tx) {i : Nat} (hi : i ≤ n) {K : Nat} (hK : K < 5) (tok first fa : Int32) {tube value paid weight mv mw nt : Nat → Int32} (hpay : RPay K value paid) : (∃ (fl fa' : Int32) (j j2 : Nat) (tok' fi' : Int32) (mv' mw' nt' : Nat → Int32), (fl = 1 ∨ fl = 2) ∧ j ≤ 1000 ∧ fX2_readCoin N (nI i) tok 0 fa (nI K) (nI n) fb tube value paid weight = some (nI j, tok', fl, fa', nI K, tube, value, paid, weight) ∧ fX8_takeCoin N (nI K) (nI n) (nI i) first 0 fa mv tx mw nt = some (nI (K + 1), nI j2, fi', fl, fa', mv', mw', nt') ∧ (∀ z, z < 5 → mv' z = mv z ∧ mw' z = mw z)) ∨ (∃ (i3 v w t : Nat) (tok' fi' : Int32) (paid' : Nat → Int32), i ≤ i3 ∧ i3 ≤ n ∧ (1 ≤ v ∧ v ≤ 99) ∧ (10 ≤ w ∧ w ≤ 99) ∧ t ≤ 60 ∧ RPay (K + 1) (upd value K (nI v)) paid' ∧ fX8_takeCoin N (nI K) (nI n) (nI i) first 0 fa mv tx mw nt = some (nI (K + 1), nI i3, fi', 0, fa, upd mv (5 + K) (nI v), upd mw (5 + K) (nI w), upd nt (5 + K) (nI t)) ∧ (∀ j, fX2_takeEnd N (nI i3) 0 fa (nI n) fb = some (nI j, 0, fa) → fX2_readCoin N (nI i) tok 0 fa (nI K) (nI n) fb tube value paid weight = some (nI j, tok', 0, fa, nI (K + 1), upd tube K (nI t), upd value K (nI v), paid', upd weight K (nI w))) ∧ (∀ (j : Nat) (fl fa' : Int32), ¬ fl = 0 → fX2_takeEnd N (nI i3) 0 fa (nI n) fb = some (nI j, fl, fa') → fX2_readCoin N (nI i) tok 0 fa (nI K) (nI n) fb tube value paid weight = some (nI j, tok', fl, fa', nI K, tube, value, paid, weight))) := by
  have hn := h.1
  have fr : ∀ (f : Nat → Int32) (x : Int32) (z : Nat), z < 5 → upd f (5 + K) x z = f z := fun f x z hz => upd_ne (by omega)
  have e5 : (5 : Int32) + nI K = nI (5 + K) := nI_add 5 K
  have c5 : Int32.toNatClampNeg (nI (5 + K)) = 5 + K := nI_clamp (by omega)
  unfold fX2_readCoin fX8_takeCoin
  rw [ref_ok N hK, bd_s, lt_e, e5]
  dsimp only
  obtain ⟨v, p1, q1, m1, a1, a2, a3, H1⟩ := t_num N hN h hi tok first fa 1 99
  rcases H1 with ⟨x1, y1, l1, l2, l3⟩ | ⟨fl, hfl, x1, y1⟩
  case inr =>
    obtain ⟨f0, f1⟩ := fl12 hfl
    left
    refine ⟨fl, nI p1, q1, q1, nI p1, nI p1, upd mv (5 + K) m1, upd mw (5 + K) 0, upd nt (5 + K) 0, hfl, by omega, ?_, ?_, ?_⟩
    rotate_left
    · rw [y1, bd_s]
      dsimp only
      rw [ck_nI (by omega) (by decide), mnum_f N f1, bd_s]
      dsimp only
      rw [mnum_f N f1, bd_s]
      dsimp only
      rw [lt_e, nI_1, c5]
    · exact fun z hz => ⟨fr _ _ z hz, fr _ _ z hz⟩
    · rw [x1, bd_s]
      dsimp only
      rw [xnum_f N f0, bd_s]
      dsimp only
      rw [xnum_f N f0, bd_s]
      dsimp only
      rw [xend_f N f0, bd_s]
      dsimp only
      rw [if_neg f0]
  rw [x1, bd_s, y1, bd_s]
  dsimp only
  rw [ck_nI (by omega) (by decide)]
  obtain ⟨w, p2, q2, m2, b1, b2, b3, H2⟩ := t_num N hN h (i := q1) a3 (nI p1) (nI p1) fa 10 99
  rcases H2 with ⟨x2, y2, r1, r2, r3⟩ | ⟨fl, hfl, x2, y2⟩
  case inr =>
    obtain ⟨f0, f1⟩ := fl12 hfl
    left
    refine ⟨fl, nI p2, q2, q2, nI p2, nI p2, upd mv (5 + K) (nI v), upd mw (5 + K) m2, upd nt (5 + K) 0, hfl, by omega, ?_, ?_, ?_⟩
    rotate_left
    · rw [y2, bd_s]
      dsimp only
      rw [mnum_f N f1, bd_s]
      dsimp only
      rw [lt_e, nI_1, c5]
    · exact fun z hz => ⟨fr _ _ z hz, fr _ _ z hz⟩
    · rw [x2, bd_s]
      dsimp only
      rw [xnum_f N f0, bd_s]
      dsimp only
      rw [xend_f N f0, bd_s]
      dsimp only
      rw [if_neg f0]
  rw [x2, bd_s, y2, bd_s]
  dsimp only
  obtain ⟨t, p3, q3, m3, d1, d2, d3, H3⟩ := t_num N hN h (i := q2) b3 (nI p2) (nI p2) fa 0 60
  rcases H3 with ⟨x3, y3, s1, s2, s3⟩ | ⟨fl, hfl, x3, y3⟩
  case inr =>
    obtain ⟨f0, f1⟩ := fl12 hfl
    left
    refine ⟨fl, nI p3, q3, q3, nI p3, nI p3, upd mv (5 + K) (nI v), upd mw (5 + K) (nI w), upd nt (5 + K) m3, hfl, by omega, ?_, ?_, ?_⟩
    rotate_left
    · rw [y3, bd_s]
      dsimp only
      rw [lt_e, nI_1, c5]
    · exact fun z hz => ⟨fr _ _ z hz, fr _ _ z hz⟩
    · rw [x3, bd_s]
      dsimp only
      rw [xend_f N f0, bd_s]
      dsimp only
      rw [if_neg f0]
  rw [x3, bd_s, y3, bd_s]
  dsimp only
  have l2 : (1 : Int) ≤ v := l2
  have l3 : (v : Int) ≤ 99 := l3
  have r2 : (10 : Int) ≤ w := r2
  have r3 : (w : Int) ≤ 99 := r3
  have s3 : (t : Int) ≤ 60 := s3
  obtain ⟨paid', k1, k2⟩ := t_addKind N (by omega) hK hpay (nI v) (nI w) weight
  right
  refine ⟨q3, v, w, t, nI p3, nI p3, paid', by omega, d3, by omega, by omega, by omega, k2, ?_, fun j hj => ?_, fun j fl fa' hfl hj => ?_⟩
  · rw [lt_e, nI_1, c5]
  · rw [hj, bd_s]
    dsimp only
    rw [if_pos (show (0 : Int32) = 0 from rfl), if_neg (show ¬ (5 : Int32) ≤ nI K from fun z => by have := (s_le (a := 5) (by decide) (by omega)).mp z; omega), ck_nI (by omega) (by decide), k1, bd_s]
    dsimp only
    rw [nI_clamp (by omega)]
  · rw [hj, bd_s]
    dsimp only
    rw [if_neg hfl]
theorem x_col6 (N : Nat) (a t fa n : Int32) (fb price low high goods wired stick kicks kcnt : Nat → Int32) : fX2_readColumn N a t 0 fa (nI 5) n fb price low high goods wired stick kicks kcnt = some (a, t, 3, t, nI 5, price, low, high, goods, wired, stick, kicks, kcnt) := by
  unfold fX2_readColumn
  rw [ref_no, bd_s]
  dsimp only
  rw [xnum_f N (by decide), bd_s]
  dsimp only
  rw [xnum_f N (by decide), bd_s]
  dsimp only
  rw [xnum_f N (by decide), bd_s]
  dsimp only
  rw [if_pos (show (0 : Int32) ≤ 0 by decide), xnum_f N (by decide), bd_s]
  dsimp only
  rw [xend_f N (by decide), bd_s]
  dsimp only
  rw [if_neg (show ¬ (3 : Int32) = 0 by decide)]
theorem want_f (N : Nat) {fl : Int32} (hf : ¬ fl = 0) (fa x k p : Int32) : fX8_want N fl fa x k p = some (0, fl, fa) := by
  unfold fX8_want
  by_cases q : x = 0
  · rw [if_pos q, if_neg hf, if_neg hf]
  · rw [if_neg q, if_neg hf]
/-- what the class does with a faulty column, whichever numbers it has -/
theorem x_colF (N : Nat) {fl : Int32} (f0 : ¬ fl = 0) (a t fa n r4 r10 r16 : Int32) (fb price low high goods wired stick kicks kcnt : Nat → Int32) (cc : Int32) : (if r10 ≤ r16 then bd (fX2_takeNumber N a t fl fa n fb 0 60) fun (r23, g24, g25, g26, g27) => bd (fX2_takeEnd N g24 g26 g27 n fb) fun (g29, g30, g31) => (if g30 = 0 then (if 5 ≤ cc then some (g29, g25, g30, g31, cc, price, low, high, goods, wired, stick, kicks, kcnt) else bd (fX4_setColumn N price low high goods wired stick kicks kcnt cc r4 r10 r16 r23) fun (g35, g36, g37, g38, g39, g40, g41, g42) => lt (cc + 1) fun n44 => some (g29, g25, g30, g31, n44, g35, g36, g37, g38, g39, g40, g41, g42)) else some (g29, g25, g30, g31, cc, price, low, high, goods, wired, stick, kicks, kcnt)) else bd (fX2_fail N fl fa 4 t) fun (g45, g46) => bd (fX2_takeNumber N a t g45 g46 n fb 0 60) fun (r48, g49, g50, g51, g52) => bd (fX2_takeEnd N g49 g51 g52 n fb) fun (g54, g55, g56) => (if g55 = 0 then (if 5 ≤ cc then some (g54, g50, g55, g56, cc, price, low, high, goods, wired, stick, kicks, kcnt) else bd (fX4_setColumn N price low high goods wired stick kicks kcnt cc r4 r10 r16 r48) fun (g60, g61, g62, g63, g64, g65, g66, g67) => lt (cc + 1) fun n69 => some (g54, g50, g55, g56, n69, g60, g61, g62, g63, g64, g65, g66, g67)) else some (g54, g50, g55, g56, cc, price, low, high, goods, wired, stick, kicks, kcnt))) = some (a, t, fl, fa, cc, price, low, high, goods, wired, stick, kicks, kcnt) := by
  by_cases q : r10 ≤ r16
  · rw [if_pos q, xnum_f N f0, bd_s]
    dsimp only
    rw [xend_f N f0, bd_s]
    dsimp only
    rw [if_neg f0]
  · rw [if_neg q, fail_f N f0, bd_s]
    dsimp only
    rw [xnum_f N f0, bd_s]
    dsimp only
    rw [xend_f N f0, bd_s]
    dsimp only
    rw [if_neg f0]
/-- what the reference does with a faulty column -/
theorem m_colF (N : Nat) {fl : Int32} (f0 : ¬ fl = 0) (f1 : ¬ fl ≤ 0) (a t fa n : Int32) {C : Nat} (r2 r9 r15 : Int32) (tx np nl nh ng mr ml : Nat → Int32) : ∃ ng', (if ((upd nh (5 + C) r15) (5 + C)) < ((upd nl (5 + C) r9) (5 + C)) then bd (fX8_want N fl fa 0 4 t) fun (r22, g23, g24) => bd (fX8_takeNumber N n a t g23 g24 tx 0 60) fun (r26, g27, g28, g29, g30) => lt (nI C + 1) fun n32 => some (n32, g27, g28, g29, g30, upd np (5 + C) r2, upd nl (5 + C) r9, upd nh (5 + C) r15, upd ng (5 + C) r26, upd mr (5 + C) 0, upd ml (5 + C) 1) else bd (fX8_want N fl fa 1 4 t) fun (r33, g34, g35) => bd (fX8_takeNumber N n a t g34 g35 tx 0 60) fun (r37, g38, g39, g40, g41) => lt (nI C + 1) fun n43 => some (n43, g38, g39, g40, g41, upd np (5 + C) r2, upd nl (5 + C) r9, upd nh (5 + C) r15, upd ng (5 + C) r37, upd mr (5 + C) 0, upd ml (5 + C) 1)) = some (nI (C + 1), a, t, fl, fa, upd np (5 + C) r2, upd nl (5 + C) r9, upd nh (5 + C) r15, ng', upd mr (5 + C) 0, upd ml (5 + C) 1) := by
  refine ⟨upd ng (5 + C) 0, ?_⟩
  by_cases q : (upd nh (5 + C) r15) (5 + C) < (upd nl (5 + C) r9) (5 + C)
  · rw [if_pos q, want_f N f0, bd_s]
    dsimp only
    rw [mnum_f N f1, bd_s]
    dsimp only
    rw [lt_e, nI_1]
  · rw [if_neg q, want_f N f0, bd_s]
    dsimp only
    rw [mnum_f N f1, bd_s]
    dsimp only
    rw [lt_e, nI_1]
set_option maxHeartbeats 4000000 in
theorem t_col (N : Nat) (hN : 1000 ≤ N) {n : Nat} {B : Nat → Nat} {fb tx : Nat → Int32} (h : TX n B fb tx) {i : Nat} (hi : i ≤ n) {C : Nat} (hC : C < 5) (tok first fa : Int32) {price low high goods wired stick kicks kcnt np nl nh ng mr ml : Nat → Int32} : (∃ (fl fa' : Int32) (j j2 : Nat) (tok' fi' : Int32) (np' nl' nh' ng' : Nat → Int32), (fl = 1 ∨ fl = 2 ∨ fl = 4) ∧ j ≤ 1000 ∧ fX2_readColumn N (nI i) tok 0 fa (nI C) (nI n) fb price low high goods wired stick kicks kcnt = some (nI j, tok', fl, fa', nI C, price, low, high, goods, wired, stick, kicks, kcnt) ∧ fX8_takeColumn N (nI C) (nI n) (nI i) first 0 fa np tx nl nh ng mr ml = some (nI (C + 1), nI j2, fi', fl, fa', np', nl', nh', ng', upd mr (5 + C) 0, upd ml (5 + C) 1)) ∨ (∃ (i3 pr lo hg gd : Nat) (tok' fi' : Int32), i ≤ i3 ∧ i3 ≤ n ∧ (1 ≤ pr ∧ pr ≤ 99) ∧ (1 ≤ lo ∧ lo ≤ 99) ∧ (1 ≤ hg ∧ hg ≤ 99) ∧ gd ≤ 60 ∧ fX8_takeColumn N (nI C) (nI n) (nI i) first 0 fa np tx nl nh ng mr ml = some (nI (C + 1), nI i3, fi', 0, fa, upd np (5 + C) (nI pr), upd nl (5 + C) (nI lo), upd nh (5 + C) (nI hg), upd ng (5 + C) (nI gd), upd mr (5 + C) 0, upd ml (5 + C) 1) ∧ (∀ j, fX2_takeEnd N (nI i3) 0 fa (nI n) fb = some (nI j, 0, fa) → fX2_readColumn N (nI i) tok 0 fa (nI C) (nI n) fb price low high goods wired stick kicks kcnt = some (nI j, tok', 0, fa, nI (C + 1), upd price C (nI pr), upd low C (nI lo), upd high C (nI hg), upd goods C (nI gd), upd wired C (nI C), upd stick C 0, upd kicks C 0, upd kcnt C 0)) ∧ (∀ (j : Nat) (fl fa' : Int32), ¬ fl = 0 → fX2_takeEnd N (nI i3) 0 fa (nI n) fb = some (nI j, fl, fa') → fX2_readColumn N (nI i) tok 0 fa (nI C) (nI n) fb price low high goods wired stick kicks kcnt = some (nI j, tok', fl, fa', nI C, price, low, high, goods, wired, stick, kicks, kcnt))) := by
  have hn := h.1
  have e5 : (5 : Int32) + nI C = nI (5 + C) := nI_add 5 C
  have c5 : Int32.toNatClampNeg (nI (5 + C)) = 5 + C := nI_clamp (by omega)
  unfold fX2_readColumn fX8_takeColumn
  rw [ref_ok N hC, bd_s, lt_e, e5]
  dsimp only
  obtain ⟨pr, p1, q1, m1, a1, a2, a3, H1⟩ := t_num N hN h hi tok first fa 1 99
  rcases H1 with ⟨x1, y1, l1, l2, l3⟩ | ⟨fl, hfl, x1, y1⟩
  case inr =>
    obtain ⟨f0, f1⟩ := fl12 hfl
    left
    rw [x1, bd_s, y1, bd_s]
    dsimp only
    rw [xnum_f N f0, bd_s, ck_nI (by omega) (by decide), mnum_f N f1, bd_s]
    dsimp only
    rw [xnum_f N f0, bd_s, mnum_f N f1, bd_s]
    dsimp only
    rw [c5]
    obtain ⟨ng', hm⟩ := m_colF N f0 f1 (nI q1) (nI p1) (nI p1) (nI n) (C := C) m1 0 0 tx np nl nh ng mr ml
    exact ⟨fl, nI p1, q1, q1, nI p1, nI p1, _, _, _, ng', by rcases hfl with z | z <;> simp [z], by omega, x_colF N f0 _ _ _ _ _ _ _ _ _ _ _ _ _ _ _ _ _, hm⟩
  rw [x1, bd_s, y1, bd_s]
  dsimp only
  rw [ck_nI (by omega) (by decide)]
  obtain ⟨lo, p2, q2, m2, b1, b2, b3, H2⟩ := t_num N hN h (i := q1) a3 (nI p1) (nI p1) fa 1 99
  rcases H2 with ⟨x2, y2, r1, r2, r3⟩ | ⟨fl, hfl, x2, y2⟩
  case inr =>
    obtain ⟨f0, f1⟩ := fl12 hfl
    left
    rw [x2, bd_s, y2, bd_s]
    dsimp only
    rw [xnum_f N f0, bd_s, mnum_f N f1, bd_s]
    dsimp only
    rw [c5]
    obtain ⟨ng', hm⟩ := m_colF N f0 f1 (nI q2) (nI p2) (nI p2) (nI n) (C := C) (nI pr) m2 0 tx np nl nh ng mr ml
    exact ⟨fl, nI p2, q2, q2, nI p2, nI p2, _, _, _, ng', by rcases hfl with z | z <;> simp [z], by omega, x_colF N f0 _ _ _ _ _ _ _ _ _ _ _ _ _ _ _ _ _, hm⟩
  rw [x2, bd_s, y2, bd_s]
  dsimp only
  obtain ⟨hg, p3, q3, m3, d1, d2, d3, H3⟩ := t_num N hN h (i := q2) b3 (nI p2) (nI p2) fa 1 99
  rcases H3 with ⟨x3, y3, s1, s2, s3⟩ | ⟨fl, hfl, x3, y3⟩
  case inr =>
    obtain ⟨f0, f1⟩ := fl12 hfl
    left
    rw [x3, bd_s, y3, bd_s]
    dsimp only
    rw [c5]
    obtain ⟨ng', hm⟩ := m_colF N f0 f1 (nI q3) (nI p3) (nI p3) (nI n) (C := C) (nI pr) (nI lo) m3 tx np nl nh ng mr ml
    exact ⟨fl, nI p3, q3, q3, nI p3, nI p3, _, _, _, ng', by rcases hfl with z | z <;> simp [z], by omega, x_colF N f0 _ _ _ _ _ _ _ _ _ _ _ _ _ _ _ _ _, hm⟩
  rw [x3, bd_s, y3, bd_s]
  dsimp only
  rw [c5, upd_at, upd_at]
  have l2 : (1 : Int) ≤ pr := l2
  have l3 : (pr : Int) ≤ 99 := l3
  have r2 : (1 : Int) ≤ lo := r2
  have r3 : (lo : Int) ≤ 99 := r3
  have s2 : (1 : Int) ≤ hg := s2
  have s3 : (hg : Int) ≤ 99 := s3
  by_cases qh : hg < lo
  · left
    rw [if_neg (show ¬ nI lo ≤ nI hg from fun z => by have := (s_le (by omega) (by omega)).mp z; omega), if_pos ((s_lt (by omega) (by omega)).mpr qh), fail_0, bd_s, want_0 N (by decide), bd_s]
    dsimp only
    rw [xnum_f N (by decide), bd_s, mnum_f N (by decide), bd_s]
    dsimp only
    rw [xend_f N (by decide), bd_s, lt_e, nI_1]
    dsimp only
    rw [if_neg (show ¬ (4 : Int32) = 0 by decide)]
    exact ⟨4, nI p3, q3, q3, nI p3, nI p3, _, _, _, _, .inr (.inr rfl), by omega, rfl, rfl⟩
  · rw [if_pos (show nI lo ≤ nI hg from (s_le (by omega) (by omega)).mpr (by omega)), if_neg (fun z => qh ((s_lt (by omega) (by omega)).mp z)), want_1, bd_s]
    dsimp only
    obtain ⟨gd, p4, q4, m4, u1, u2, u3, H4⟩ := t_num N hN h (i := q3) d3 (nI p3) (nI p3) fa 0 60
    rcases H4 with ⟨x4, y4, v1, v2, v3⟩ | ⟨fl, hfl, x4, y4⟩
    case inr =>
      obtain ⟨f0, f1⟩ := fl12 hfl
      left
      rw [x4, bd_s, y4, bd_s]
      dsimp only
      rw [xend_f N f0, bd_s, lt_e, nI_1]
      dsimp only
      rw [if_neg f0]
      exact ⟨fl, nI p4, q4, q4, nI p4, nI p4, _, _, _, _, by rcases hfl with z | z <;> simp [z], by omega, rfl, rfl⟩
    rw [x4, bd_s, y4, bd_s]
    dsimp only
    rw [lt_e, nI_1]
    have v3 : (gd : Int) ≤ 60 := v3
    right
    refine ⟨q4, pr, lo, hg, gd, nI p4, nI p4, by omega, u3, by omega, by omega, by omega, by omega, rfl, fun j hj => ?_, fun j fl fa' hfl hj => ?_⟩
    · rw [hj, bd_s]
      dsimp only
      rw [if_pos (show (0 : Int32) = 0 from rfl), if_neg (show ¬ (5 : Int32) ≤ nI C from fun z => by have := (s_le (a := 5) (by decide) (by omega)).mp z; omega)]
      unfold fX4_setColumn fX4_setFree
      rw [if_neg (nI_pos (by omega)), if_pos (show nI C < 5 from (s_lt (b := 5) (by omega) (by decide)).mpr hC), ck_nI (by omega) (by decide), ck_nI (by omega) (by decide), bd_s]
      dsimp only
      rw [bd_s]
      dsimp only
      rw [lt_e, nI_clamp (by omega)]
    · rw [hj, bd_s]
      dsimp only
      rw [if_neg hfl]
