/-! the tests of fewest -/
def vsN (r v : Nat → Nat) : Nat → Nat
  | 0 => 0
  | n + 1 => vsN r v n + r n * v n
theorem vsN_s (r v : Nat → Nat) (n : Nat) : vsN r v (n + 1) = vsN r v n + r n * v n := rfl
theorem Sv_tail (f : Nat → Nat) : ∀ d i, sumG f (d + 1) i = sumG f d i + f (i + d) := by
  intro d
  induction d with
  | zero => intro i; show f i + 0 = 0 + f i; omega
  | succ d ih =>
    intro i
    show f i + sumG f (d + 1) (i + 1) = (f i + sumG f d (i + 1)) + f (i + (d + 1))
    rw [ih (i + 1), show i + 1 + d = i + (d + 1) by omega]
    omega
theorem vsN_S (r v : Nat → Nat) : ∀ n, vsN r v n = sumG (fun k => r k * v k) n 0 := by
  intro n
  induction n with
  | zero => rfl
  | succ n ih => rw [vsN_s, Sv_tail, ih, Nat.zero_add]
theorem vsN_le {r v : Nat → Nat} {K : Nat} (hr : ∀ k, k < K → r k ≤ 8) (hv : ∀ k, k < K → v k ≤ 99) : ∀ n, n ≤ K → vsN r v n ≤ 792 * n := by
  intro n
  induction n with
  | zero => intro _; exact Nat.le_refl _
  | succ n ih =>
    intro hn
    rw [vsN_s]
    have h1 := ih (by omega)
    have h2 : r n * v n ≤ 8 * 99 := Nat.mul_le_mul (hr n (by omega)) (hv n (by omega))
    omega
theorem sub_add (a b c : Int32) : a - b + c = a + c - b := by
  rw [Int32.sub_eq_add_neg, Int32.sub_eq_add_neg, Int32.add_assoc, Int32.add_comm (-b) c, ← Int32.add_assoc]
def passP (lo hi worn : Int32) (weight : Nat → Int32) (k : Nat) : Prop := lo.toInt ≤ (weight k - worn).toInt ∧ (weight k - worn).toInt ≤ hi.toInt
def fewP (K p : Nat) (σ v tb : Nat → Nat) (pass : Nat → Prop) (cap c : Nat) : Prop := (∀ k, k < K → 0 < rowC K c k → pass k) ∧ p ≤ vsN (rowC K c) v K ∧ (payL σ v K 0 (vsN (rowC K c) v K - p) (fun k => min cap (tb k + rowC K c k))).1 = 0
theorem x_rbL (N : Nat) {K col p : Nat} (hK : K ≤ 5) (hcol : col < 5) {r v tb : Nat → Nat} {coins value ntube weight low high : Nat → Int32} {worn : Int32} (hr : ∀ k, k < K → coins k = nI (r k) ∧ r k ≤ 8) (hv : ∀ k, k < K → value k = nI (v k) ∧ 1 ≤ v k ∧ v k ≤ 99) (ht : ∀ k, k < K → ntube k = nI (tb k) ∧ tb k ≤ 60) : ∀ (d i f : Nat) (tt : Nat → Int32), i + d = K → d < f → ((∀ k, i ≤ k → k < K → 0 < r k → passP (low col) (high col) worn weight k) → ∃ tt', fX7_rowBuysAt_L13 N f (nI col) (nI (vsN r v i) - nI p) (nI i) (nI K) coins value tt worn ntube weight low high = some (.inl (nI (vsN r v K) - nI p, tt')) ∧ (∀ k, k < i → tt' k = tt k) ∧ ∀ k, i ≤ k → k < K → tt' k = nI (tb k + r k)) ∧ ((¬ ∀ k, i ≤ k → k < K → 0 < r k → passP (low col) (high col) worn weight k) → ∃ tt', fX7_rowBuysAt_L13 N f (nI col) (nI (vsN r v i) - nI p) (nI i) (nI K) coins value tt worn ntube weight low high = some (.inr (0, tt'))) := by
  intro d
  induction d with
  | zero =>
    intro i f tt hi hf
    obtain ⟨f, rfl⟩ : ∃ g, f = g + 1 := ⟨f - 1, by omega⟩
    refine ⟨fun _ => ⟨tt, ?_, fun _ _ => rfl, fun k h1 h2 => by omega⟩, fun h => absurd (fun k h1 h2 => by omega) h⟩
    rw [fX7_rowBuysAt_L13_s, if_pos (nI_le (by omega) (by omega)), show i = K by omega]
  | succ d ih =>
    intro i f tt hi hf
    obtain ⟨f, rfl⟩ : ∃ g, f = g + 1 := ⟨f - 1, by omega⟩
    obtain ⟨e1, e2⟩ := hr i (by omega)
    obtain ⟨e3, -, -⟩ := hv i (by omega)
    obtain ⟨e4, -⟩ := ht i (by omega)
    have es : nI (vsN r v i) - nI p + nI (r i) * nI (v i) = nI (vsN r v (i + 1)) - nI p := by
      rw [sub_add, s_mul, nI_add, vsN_s]
    obtain ⟨h1, h2⟩ := ih (i + 1) f (upd tt i (nI (tb i + r i))) (by omega) (by omega)
    have go1 : (∀ k, i + 1 ≤ k → k < K → 0 < r k → passP (low col) (high col) worn weight k) → ∃ tt', fX7_rowBuysAt_L13 N f (nI col) (nI (vsN r v (i + 1)) - nI p) (nI (i + 1)) (nI K) coins value (upd tt i (nI (tb i + r i))) worn ntube weight low high = some (.inl (nI (vsN r v K) - nI p, tt')) ∧ (∀ k, k < i → tt' k = tt k) ∧ ∀ k, i ≤ k → k < K → tt' k = nI (tb k + r k) := fun hp => by
      obtain ⟨tt', g1, g2, g3⟩ := h1 hp
      refine ⟨tt', g1, fun k hk => by rw [g2 k (by omega), upd_ne (by omega)], fun k hk hk2 => ?_⟩
      by_cases q : k = i
      · subst q; rw [g2 k (by omega), upd_at]
      · exact g3 k (by omega) hk2
    rw [fX7_rowBuysAt_L13_s, if_neg (nI_ge (by omega) (by omega)), ck_nI (by omega) (by decide), nI_clamp (by omega), lt_e, e1, e3, e4, es]
    by_cases q : r i = 0
    · have q0 : nI (r i) ≤ 0 := by rw [q]; decide
      rw [if_pos q0, lt_e, lt_e, lt_e, nI_1, nI_add]
      refine ⟨fun hp => go1 (fun k z1 z2 z3 => hp k (by omega) z2 z3), fun hn => h2 (fun z => hn (fun k z1 z2 z3 => ?_))⟩
      by_cases e : k = i
      · rw [e, q] at z3; omega
      · exact z k (by omega) z2 z3
    · rw [if_neg (nI_nle (by omega) (by omega)), p_passes N hcol (by omega), bd_s]
      by_cases q2 : passP (low col) (high col) worn weight i
      · rw [if_pos (show (low col).toInt ≤ (weight i - worn).toInt ∧ (weight i - worn).toInt ≤ (high col).toInt from q2), if_neg (show ¬ (1 : Int32) = 0 by decide), lt_e, lt_e, lt_e, nI_1, nI_add]
        refine ⟨fun hp => go1 (fun k z1 z2 z3 => hp k (by omega) z2 z3), fun hn => h2 (fun z => hn (fun k z1 z2 z3 => ?_))⟩
        by_cases e : k = i
        · rw [e]; exact q2
        · exact z k (by omega) z2 z3
      · rw [if_neg (show ¬ ((low col).toInt ≤ (weight i - worn).toInt ∧ (weight i - worn).toInt ≤ (high col).toInt) from q2), if_pos (show (0 : Int32) = 0 from rfl)]
        exact ⟨fun hp => absurd (hp i (Nat.le_refl _) (by omega) (by omega)) q2, fun _ => ⟨_, rfl⟩⟩
theorem x_rb (N : Nat) (hN : 10 ≤ N) {K col p c : Nat} (hK : K ≤ 5) (hcol : col < 5) (hp99 : p ≤ 99) {σ v tb : Nat → Nat} {coins value ntube weight low high price paid : Nat → Int32} {worn : Int32} (hr : ∀ k, k < 5 → coins k = nI (rowC K c k)) (hv : ∀ k, k < K → value k = nI (v k) ∧ 1 ≤ v k ∧ v k ≤ 99) (ht : ∀ k, k < K → ntube k = nI (tb k) ∧ tb k ≤ 60) (hpr : price col = nI p) (hσ : ∀ i, i < K → σ i < K ∧ paid i = nI (σ i)) (tt : Nat → Int32) : (fewP K p σ v tb (passP (low col) (high col) worn weight) 1000 c → ∃ tt', fX7_rowBuysAt N (nI K) coins value tt worn ntube weight low high price paid (nI col) = some (1, tt')) ∧ (¬ fewP K p σ v tb (passP (low col) (high col) worn weight) 1000 c → ∃ tt', fX7_rowBuysAt N (nI K) coins value tt worn ntube weight low high price paid (nI col) = some (0, tt')) := by
  obtain ⟨h1, h2⟩ := x_rbL N hK hcol (p := p) (r := rowC K c) (v := v) (tb := tb) (coins := coins) (value := value) (ntube := ntube) (weight := weight) (low := low) (high := high) (worn := worn) (fun k hk => ⟨hr k (by omega), rowC_le K c k⟩) hv ht K 0 N tt (by omega) (by omega)
  have hvs := vsN_le (r := rowC K c) (v := v) (K := K) (fun k _ => rowC_le K c k) (fun k hk => (hv k hk).2.2) K (Nat.le_refl _)
  unfold fX7_rowBuysAt
  rw [ck_nI hcol (by decide), nI_clamp (by omega), hpr, lt_e]
  by_cases q1 : ∀ k, 0 ≤ k → k < K → 0 < rowC K c k → passP (low col) (high col) worn weight k
  · obtain ⟨t1, g1, -, g3⟩ := h1 q1
    rw [show fX7_rowBuysAt_L13 N N (nI col) (-nI p) 0 (nI K) coins value tt worn ntube weight low high = some (.inl (nI (vsN (rowC K c) v K) - nI p, t1)) from by
      rw [← g1]
      show _ = fX7_rowBuysAt_L13 N N (nI col) (0 - nI p) 0 (nI K) coins value tt worn ntube weight low high
      rw [Int32.zero_sub], bd_s]
    dsimp only
    by_cases q2 : p ≤ vsN (rowC K c) v K
    · rw [s_sub q2, if_neg (nI_pos (by omega))]
      obtain ⟨t2, g4, -, -⟩ := pay_c N hK hv hσ (nI (vsN (rowC K c) v K - p)) K 0 N (vsN (rowC K c) v K - p) (fun k => min 1000 (tb k + rowC K c k)) t1 (by omega) (by omega) (by omega) (fun k hk => by
        have z1 := (ht k hk).2
        have z2 := rowC_le K c k
        rw [g3 k (Nat.zero_le _) hk]
        show nI (tb k + rowC K c k) = nI (min 1000 (tb k + rowC K c k)) ∧ min 1000 (tb k + rowC K c k) ≤ 100
        rw [Nat.min_eq_right (by omega)]
        exact ⟨rfl, by omega⟩)
      have hle := (payL_le σ v K 0 (vsN (rowC K c) v K - p) (fun k => min 1000 (tb k + rowC K c k))).1
      unfold fX1_payBack
      rw [show fX1_payBack_L5 N N (nI (vsN (rowC K c) v K - p)) (nI (vsN (rowC K c) v K - p)) 0 (nI K) t1 paid value = _ from g4, bd_s]
      dsimp only
      rw [lt_e, s_sub hle, bd_s]
      dsimp only
      by_cases q3 : (payL σ v K 0 (vsN (rowC K c) v K - p) (fun k => min 1000 (tb k + rowC K c k))).1 = 0
      · rw [if_pos (show nI (vsN (rowC K c) v K - p - (payL σ v K 0 (vsN (rowC K c) v K - p) (fun k => min 1000 (tb k + rowC K c k))).1) = nI (vsN (rowC K c) v K - p) from by rw [q3, Nat.sub_zero])]
        exact ⟨fun _ => ⟨_, rfl⟩, fun z => absurd ⟨fun k hk => q1 k (Nat.zero_le _) hk, q2, q3⟩ z⟩
      · rw [if_neg (fun z => q3 (by have := (nI_eq (by omega) (by omega)).mp z; omega))]
        exact ⟨fun z => absurd z.2.2 q3, fun _ => ⟨_, rfl⟩⟩
    · rw [if_pos (by rw [lt32, pk_sub_toInt (by omega) (by omega)]; show (vsN (rowC K c) v K : Int) - (p : Int) < 0; omega)]
      exact ⟨fun z => absurd z.2.1 q2, fun _ => ⟨_, rfl⟩⟩
  · obtain ⟨t1, g1⟩ := h2 q1
    rw [show fX7_rowBuysAt_L13 N N (nI col) (-nI p) 0 (nI K) coins value tt worn ntube weight low high = some (.inr (0, t1)) from by
      rw [← g1]
      show _ = fX7_rowBuysAt_L13 N N (nI col) (0 - nI p) 0 (nI K) coins value tt worn ntube weight low high
      rw [Int32.zero_sub], bd_s]
    exact ⟨fun z => absurd (fun k _ hk => z.1 k hk) q1, fun _ => ⟨_, rfl⟩⟩
theorem m_putIn (N : Nat) {w : Nat → Int32} {k a m l : Nat} (hk : k < 5) (ew : w (60 + k) = nI a) (ha : a ≤ 60) (hm : m ≤ 8) (el : w 105 = nI l) (hl : l ≤ 999999999) : ∃ l' : Nat, l' ≤ 999999999 ∧ fX8_putIn N w 60 (nI k) (nI m) = some (upd (upd w (60 + k) (nI (min 60 (a + m)))) 105 (nI l')) := by
  refine ⟨min (l + (a + m) - min 60 (a + m)) 999999999, Nat.min_le_right _ _, ?_⟩
  have ne : (105 : Nat) ≠ 60 + k := by omega
  have e105 : Int32.toNatClampNeg (60 + 45) = 105 := rfl
  unfold fX8_putIn
  rw [ck_at (i := 60 + nI k) (nI_add 60 k) (by omega) (by decide), show Int32.toNatClampNeg (60 + nI k) = 60 + k from cl_add (a := 60) (by omega), ew, nI_add, lt_e, e105]
  by_cases q : a + m ≤ 60
  · rw [if_pos (show nI (a + m) ≤ 60 from (s_le (b := 60) (by omega) (by decide)).mpr q), ck_at (i := 60 + 45) (j := 105) rfl (by decide) (by decide), upd_ne ne, upd_at, el, Nat.min_eq_right q, p_held N (a := l + (a + m) - (a + m)) (by omega) (l_addsub (by omega) (by omega) (by omega) (by omega)), bd_s]
  · rw [if_neg (show ¬ nI (a + m) ≤ 60 from fun z => q ((s_le (b := 60) (by omega) (by decide)).mp z)), ck_at (i := 60 + 45) (j := 105) rfl (by decide) (by decide), upd_ne ne, upd_at, el, Nat.min_eq_left (show 60 ≤ a + m by omega), show ((Int32.toInt64 (nI l) + Int32.toInt64 (nI (a + m))) - Int32.toInt64 60) = ((Int32.toInt64 (nI l) + Int32.toInt64 (nI (a + m))) - Int32.toInt64 (nI 60)) from rfl, p_held N (a := l + (a + m) - 60) (by omega) (l_addsub (by omega) (by omega) (by omega) (by decide)), bd_s]
    rfl
theorem m_getL (N : Nat) {K C : Nat} {rlen cu cg mu mg tube goods stick kicks kcnt low high price wired : Nat → Int32} {lost stamps sales damp worn seed : Int32} {w0 : Nat → Int32} (h0 : RSt K C rlen cu cg mu mg tube goods stick kicks kcnt low high price wired lost stamps sales damp worn seed w0 0) (hK : K ≤ 5) (hC : C ≤ 5) {weight mweight mvalue fo : Nat → Int32} (hwe : ∀ k, k < K → mweight k = weight k) {col : Nat} (hcol : col < C) {r v tb : Nat → Nat} (hr : ∀ k, k < K → fo k = nI (r k) ∧ r k ≤ 8) (hv : ∀ k, k < K → mvalue k = nI (v k)) (ht : ∀ k, k < K → tb k ≤ 60) : ∀ (d i f : Nat) (w2 : Nat → Int32), i + d = K → d < f → (∀ j, (j < 60 ∨ 120 ≤ j) → w2 j = w0 j) → (∃ l : Nat, l ≤ 999999999 ∧ w2 105 = nI l) → (∀ k, k < i → w2 (60 + k) = nI (min 60 (tb k + r k))) → (∀ k, i ≤ k → k < K → w2 (60 + k) = nI (tb k)) → ((∀ k, i ≤ k → k < K → 0 < r k → passP (low col) (high col) worn weight k) → ∃ w3, fX8_gets_L11 N f (nI col) (nI (vsN r v i)) (nI i) (nI K) fo mvalue w2 mweight = some (.inl (nI (vsN r v K), w3)) ∧ (∀ j, (j < 60 ∨ 120 ≤ j) → w3 j = w0 j) ∧ ∀ k, k < K → w3 (60 + k) = nI (min 60 (tb k + r k))) ∧ ((¬ ∀ k, i ≤ k → k < K → 0 < r k → passP (low col) (high col) worn weight k) → ∃ w3, fX8_gets_L11 N f (nI col) (nI (vsN r v i)) (nI i) (nI K) fo mvalue w2 mweight = some (.inr (0, w3)) ∧ (∀ j, (j < 60 ∨ 120 ≤ j) → w3 j = w0 j)) := by
  intro d
  induction d with
  | zero =>
    intro i f w2 hi hf hw hl h1 h2
    obtain ⟨f, rfl⟩ : ∃ g, f = g + 1 := ⟨f - 1, by omega⟩
    refine ⟨fun _ => ⟨w2, ?_, hw, fun k hk => h1 k (by omega)⟩, fun h => absurd (fun k z1 z2 => by omega) h⟩
    rw [fX8_gets_L11_s, if_pos (nI_le (by omega) (by omega)), show i = K by omega]
  | succ d ih =>
    intro i f w2 hi hf hw hl h1 h2
    obtain ⟨f, rfl⟩ : ∃ g, f = g + 1 := ⟨f - 1, by omega⟩
    obtain ⟨e1, e2⟩ := hr i (by omega)
    have e3 := hv i (by omega)
    obtain ⟨l, hl1, hl2⟩ := hl
    obtain ⟨l', hl3, ep⟩ := m_putIn N (w := w2) (k := i) (m := r i) (by omega) (h2 i (Nat.le_refl _) (by omega)) (ht i (by omega)) e2 hl2 hl1
    have es : nI (vsN r v i) + nI (r i) * nI (v i) = nI (vsN r v (i + 1)) := by rw [s_mul, nI_add, vsN_s]
    obtain ⟨g1, g2⟩ := ih (i + 1) f (upd (upd w2 (60 + i) (nI (min 60 (tb i + r i)))) 105 (nI l')) (by omega) (by omega) (fun j hj => by rw [upd_ne (by omega), upd_ne (by omega)]; exact hw j hj) ⟨l', hl3, upd_at _ _ _⟩ (fun k hk => by
      rw [upd_ne (by omega)]
      by_cases q : k = i
      · subst q; rw [upd_at]
      · rw [upd_ne (by omega)]; exact h1 k (by omega)) (fun k hk hk2 => by rw [upd_ne (by omega), upd_ne (by omega)]; exact h2 k (by omega) hk2)
    rw [fX8_gets_L11_s, if_neg (nI_ge (by omega) (by omega)), ck_nI (by omega) (by decide), nI_clamp (by omega), e1, ck_nI (by omega) (by decide), e3, es, ep]
    by_cases q : r i = 0
    · have q0 : nI (r i) ≤ 0 := by rw [q]; decide
      rw [if_pos q0, lt_e, bd_s, lt_e, nI_1]
      refine ⟨fun hp => g1 (fun k z1 z2 z3 => hp k (by omega) z2 z3), fun hn => g2 (fun z => hn (fun k z1 z2 z3 => ?_))⟩
      by_cases e : k = i
      · rw [e, q] at z3; omega
      · exact z k (by omega) z2 z3
    · have hcg : RSt K C rlen cu cg mu mg tube goods stick kicks kcnt low high price wired lost stamps sales damp worn seed w2 0 := h0.cong hK hC (fun j hj => hw (0 + j) (by omega))
      have k1 : fX8_weightIn N mweight w2 0 (nI i) = some (weight i - worn) := (p_weight N hcg (by decide) hwe hK (by omega)).2
      have k2 : fX8_passes N w2 0 (nI col) (weight i - worn) = _ := p_passW N hcg hC (by decide) hcol (weight i - worn)
      rw [if_neg (nI_nle (by omega) (by omega)), k1, bd_s, k2, bd_s]
      by_cases q2 : passP (low col) (high col) worn weight i
      · rw [if_pos (show (low col).toInt ≤ (weight i - worn).toInt ∧ (weight i - worn).toInt ≤ (high col).toInt from q2), if_neg (show ¬ (1 : Int32) = 0 by decide), lt_e, bd_s, lt_e, nI_1]
        refine ⟨fun hp => g1 (fun k z1 z2 z3 => hp k (by omega) z2 z3), fun hn => g2 (fun z => hn (fun k z1 z2 z3 => ?_))⟩
        by_cases e : k = i
        · rw [e]; exact q2
        · exact z k (by omega) z2 z3
      · rw [if_neg (show ¬ ((low col).toInt ≤ (weight i - worn).toInt ∧ (weight i - worn).toInt ≤ (high col).toInt) from q2), if_pos (show (0 : Int32) = 0 from rfl)]
        exact ⟨fun hp => absurd (hp i (Nat.le_refl _) (by omega) (by omega)) q2, fun _ => ⟨_, rfl, hw⟩⟩
theorem m_gets (N : Nat) (hN : 100 ≤ N) {K C : Nat} {rlen cu cg mu mg tube goods stick kicks kcnt low high price wired : Nat → Int32} {lost stamps sales damp worn seed : Int32} {w : Nat → Int32} (h0 : RSt K C rlen cu cg mu mg tube goods stick kicks kcnt low high price wired lost stamps sales damp worn seed w 0) (hK : K ≤ 5) (hC : C ≤ 5) {value weight mvalue mweight fo : Nat → Int32} (hwe : ∀ k, k < K → mweight k = weight k) (hmv : ∀ k, k < K → mvalue k = value k) {col p c : Nat} (hcol : col < C) (hpr : price col = nI p) (hp99 : p ≤ 99) {σ v tb : Nat → Nat} (hr : ∀ k, k < K → fo k = nI (rowC K c k)) (hv : ∀ k, k < K → value k = nI (v k) ∧ 1 ≤ v k ∧ v k ≤ 99) (ht : ∀ k, k < K → tube k = nI (tb k) ∧ tb k ≤ 60) (hσ : ∀ i, i < K → σ i < K) (hord : ∀ i j, i < j → j < K → (value (σ j)).toInt < (value (σ i)).toInt ∨ ((value (σ j)).toInt = (value (σ i)).toInt ∧ σ i < σ j)) : (fewP K p σ v tb (passP (low col) (high col) worn weight) 60 c → ∃ w', fX8_gets N (nI K) fo mvalue w mweight (nI col) = some (1, w') ∧ (∀ j, (j < 60 ∨ 120 ≤ j) → w' j = w j)) ∧ (¬ fewP K p σ v tb (passP (low col) (high col) worn weight) 60 c → ∃ w', fX8_gets N (nI K) fo mvalue w mweight (nI col) = some (0, w') ∧ (∀ j, (j < 60 ∨ 120 ≤ j) → w' j = w j)) := by
  obtain ⟨w1, m1, m2, m3⟩ := p_copyM N (by omega) (x := 0) (y := 60) (by decide) (by decide) (by decide) w
  have m1 : fX8_copy N w 0 60 = some w1 := m1
  obtain ⟨el, lo, -, hlo, elo⟩ := h0.2.2.2.2.2.2.2.2.2.1
  obtain ⟨h1, h2⟩ := m_getL N h0 hK hC hwe hcol (fo := fo) (r := rowC K c) (v := v) (tb := tb) (mvalue := mvalue) (fun k hk => ⟨hr k hk, rowC_le K c k⟩) (fun k hk => by rw [hmv k hk]; exact (hv k hk).1) (fun k hk => (ht k hk).2) K 0 N w1 (by omega) (by omega) m3 ⟨lo, hlo, by rw [m2 45 (by omega), el, elo]⟩ (fun k hk => by omega) (fun k _ hk => by rw [m2 k (by omega), (h0.1 k hk).1, (ht k hk).1])
  have hvs := vsN_le (r := rowC K c) (v := v) (K := K) (fun k _ => rowC_le K c k) (fun k hk => (hv k hk).2.2) K (Nat.le_refl _)
  unfold fX8_gets
  rw [m1, bd_s]
  by_cases q1 : ∀ k, 0 ≤ k → k < K → 0 < rowC K c k → passP (low col) (high col) worn weight k
  · obtain ⟨w3, g1, g2, g3⟩ := h1 q1
    have e25 : w3 (Int32.toNatClampNeg (25 + nI col)) = nI p := by
      rw [show Int32.toNatClampNeg (25 + nI col) = 25 + col from cl_add (a := 25) (by omega), g2 _ (by omega)]
      have := (h0.2.2.2.2.2.1 col hcol).1
      rw [← hpr, ← this, Nat.zero_add]
    rw [show fX8_gets_L11 N N (nI col) 0 0 (nI K) fo mvalue w1 mweight = _ from g1, bd_s]
    dsimp only
    rw [ck_at (i := 25 + nI col) (nI_add 25 col) (by omega) (by decide), e25]
    by_cases q2 : p ≤ vsN (rowC K c) v K
    · rw [if_neg (fun z => by have := (s_lt (by omega) (by omega)).mp z; omega), s_sub q2]
      obtain ⟨w4, g4, -, g6⟩ := pay_m N (by omega) hK hmv hv hσ hord (x := 60) (by decide) K 0 N (vsN (rowC K c) v K - p) 0 (fun k => min 60 (tb k + rowC K c k)) w3 (by omega) (by omega) (by omega) (by decide) (fun k hk => ⟨fun z => by rw [Nat.zero_testBit] at z; exact absurd z (by decide), fun ⟨j, hj, _⟩ => by omega⟩) (fun k hk => ⟨g3 k hk, Nat.le_trans (Nat.min_le_left _ _) (by decide)⟩)
      have hle := (payL_le σ v K 0 (vsN (rowC K c) v K - p) (fun k => min 60 (tb k + rowC K c k))).1
      have hfr : (∀ j, (j < 60 ∨ 120 ≤ j) → w4 j = w j) := fun j hj => by rw [g6 j (by omega), g2 j hj]
      unfold fX8_payBack
      rw [show fX8_payBack_L8 N N 60 (nI (vsN (rowC K c) v K - p)) 0 0 (nI K) mvalue w3 = _ from g4, bd_s]
      dsimp only
      rw [bd_s]
      dsimp only
      by_cases q3 : (payL σ v K 0 (vsN (rowC K c) v K - p) (fun k => min 60 (tb k + rowC K c k))).1 = 0
      · rw [if_pos (show nI (payL σ v K 0 (vsN (rowC K c) v K - p) (fun k => min 60 (tb k + rowC K c k))).1 = 0 from by rw [q3]; rfl)]
        exact ⟨fun _ => ⟨_, rfl, hfr⟩, fun z => absurd ⟨fun k hk => q1 k (Nat.zero_le _) hk, q2, q3⟩ z⟩
      · rw [if_neg (nI_ne0 (by omega) (by omega))]
        exact ⟨fun z => absurd z.2.2 q3, fun _ => ⟨_, rfl, hfr⟩⟩
    · rw [if_pos ((s_lt (by omega) (by omega)).mpr (by omega))]
      exact ⟨fun z => absurd z.2.1 q2, fun _ => ⟨_, rfl, g2⟩⟩
  · obtain ⟨w3, g1, g2⟩ := h2 q1
    rw [show fX8_gets_L11 N N (nI col) 0 0 (nI K) fo mvalue w1 mweight = _ from g1, bd_s]
    exact ⟨fun z => absurd (fun k _ hk => z.1 k hk) q1, fun _ => ⟨_, rfl, g2⟩⟩
theorem dec1 {K c kk : Nat} (hkk : kk < K) (hc : c < 9 ^ K) (hr : 1 ≤ rowC K c kk) : ∃ c' : Nat, c' < 9 ^ K ∧ ∀ k, rowC K c' k = if k = kk then rowC K c k - 1 else rowC K c k := by
  have hrow : rowC K c kk = 8 - c / 9 ^ (K - 1 - kk) % 9 := by unfold rowC; rw [if_pos hkk]
  generalize hm : K - 1 - kk = m at hrow
  have hp : 0 < 9 ^ m := Nat.pow_pos (by decide)
  have hd : (c + 9 ^ m) / 9 ^ m = c / 9 ^ m + 1 := Nat.add_div_right c hp
  have hq : c / 9 ^ m % 9 ≤ 7 := by omega
  have h9 : (c / 9 ^ m + 1) / 9 = c / 9 ^ m / 9 := by omega
  have up : ∀ n, (c + 9 ^ m) / 9 ^ (m + (n + 1)) = c / 9 ^ (m + (n + 1)) := by
    intro n
    rw [Nat.pow_add, Nat.pow_succ', ← Nat.div_div_eq_div_mul, ← Nat.div_div_eq_div_mul, ← Nat.div_div_eq_div_mul, ← Nat.div_div_eq_div_mul, hd, h9]
  refine ⟨c + 9 ^ m, ?_, fun k => ?_⟩
  · have h := up (K - m - 1)
    rw [show m + (K - m - 1 + 1) = K by omega, Nat.div_eq_of_lt hc] at h
    exact (Nat.div_eq_zero_iff_lt (Nat.pow_pos (by decide))).mp h
  · unfold rowC
    by_cases q : k < K
    · rw [if_pos q, if_pos q]
      by_cases e : k = kk
      · rw [if_pos e, e, hm, hd]
        omega
      · rw [if_neg e]
        congr 1
        rcases Nat.lt_or_ge (K - 1 - k) m with z | z
        · have e1 : 9 ^ m = 9 ^ (m - (K - 1 - k)) * 9 ^ (K - 1 - k) := by rw [← Nat.pow_add]; congr 1; omega
          rw [e1, Nat.add_mul_div_right _ _ (Nat.pow_pos (by decide)), show 9 ^ (m - (K - 1 - k)) = 9 ^ (m - (K - 1 - k) - 1) * 9 from by rw [← Nat.pow_succ]; congr 1; omega, Nat.add_mul_mod_self_right]
        · have h := up (K - 1 - k - m - 1)
          rw [show m + (K - 1 - k - m - 1 + 1) = K - 1 - k by omega] at h
          rw [h]
    · rw [if_neg q, if_neg q]
      by_cases e : k = kk
      · rw [if_pos e]
      · rw [if_neg e]
theorem Sv_dec {f g : Nat → Nat} {m e : Nat} (h1 : ∀ k, k ≠ m → g k = f k) (h2 : g m + e = f m) : ∀ d i, i ≤ m → m < i + d → sumG g d i + e = sumG f d i := by
  intro d
  induction d with
  | zero => intro i z1 z2; omega
  | succ d ih =>
    intro i z1 z2
    show g i + sumG g d (i + 1) + e = f i + sumG f d (i + 1)
    by_cases q : i = m
    · rw [Sv_cong (g := f) d (i + 1) (fun j h3 h4 => h1 j (by omega)), q]
      omega
    · rw [h1 i q]
      have := ih (i + 1) (by omega) (by omega)
      omega
theorem Sv_split (f : Nat → Nat) : ∀ i d j, sumG f (i + d) j = sumG f i j + sumG f d (j + i) := by
  intro i
  induction i with
  | zero => intro d j; rw [Nat.zero_add]; show sumG f d j = 0 + sumG f d (j + 0); rw [Nat.zero_add, Nat.add_zero]
  | succ i ih =>
    intro d j
    rw [show i + 1 + d = (i + d) + 1 by omega]
    show f j + sumG f (i + d) (j + 1) = (f j + sumG f i (j + 1)) + sumG f d (j + (i + 1))
    rw [ih d (j + 1), show j + 1 + i = j + (i + 1) by omega]
    omega
theorem few_pq {K p : Nat} {σ v tb : Nat → Nat} {pass : Nat → Prop} (hp1 : 1 ≤ p) (hσ : ∀ i, i < K → σ i < K) (hd : ∀ i j, i < j → j < K → σ i ≠ σ j) (hsur : ∀ k, k < K → ∃ i, i < K ∧ σ i = k) (hv : ∀ k, k < K → 1 ≤ v k ∧ v k ≤ 99) (hs : ∀ i j, i ≤ j → j < K → v (σ j) ≤ v (σ i)) (ht : ∀ k, k < K → tb k ≤ 60) {c : Nat} (hc : c < 9 ^ K) (h8 : sC K c ≤ 8) : (fewP K p σ v tb pass 60 c → fewP K p σ v tb pass 1000 c) ∧ (fewP K p σ v tb pass 1000 c → ¬ fewP K p σ v tb pass 60 c → ∃ c', (c' < 9 ^ K ∧ 1 ≤ sC K c' ∧ sC K c' ≤ 8) ∧ sC K c' < sC K c ∧ fewP K p σ v tb pass 1000 c') := by
  have hinj : ∀ i j, i < K → j < K → σ i = σ j → i = j := by
    intro i j hi hj e
    rcases Nat.lt_trichotomy i j with q | q | q
    · exact absurd e (hd i j q hj)
    · exact q
    · exact absurd e.symm (hd j i q hi)
  have hτ : ∃ τ : Nat → Nat, ∀ k, k < K → τ k < K ∧ σ (τ k) = k := by
    refine ⟨fun k => if h : k < K then Classical.choose (hsur k h) else 0, fun k hk => ?_⟩
    show (if h : k < K then Classical.choose (hsur k h) else 0) < K ∧ σ (if h : k < K then Classical.choose (hsur k h) else 0) = k
    rw [dif_pos hk]
    exact Classical.choose_spec (hsur k hk)
  obtain ⟨τ, hτ⟩ := hτ
  have perm1 : ∀ g : Nat → Nat, sumG g K 0 ≤ sumG (fun j => g (σ j)) K 0 := by
    intro g
    have h := Sv_inj K K τ (fun j => g (σ j)) (fun k hk => (hτ k hk).1) (fun i j hi hj e => by
      have h1 := (hτ i (by omega)).2
      have h2 := (hτ j hj).2
      rw [e, h2] at h1
      omega)
    rw [Sv_cong (f := fun k => g (σ (τ k))) (g := g) K 0 (fun j _ hj => by
      show g (σ (τ j)) = g j
      rw [(hτ j (by omega)).2])] at h
    exact h
  have perm2 : ∀ g : Nat → Nat, sumG (fun j => g (σ j)) K 0 ≤ sumG g K 0 := fun g => Sv_inj K K σ g hσ hd
  have hL : vsN (rowC K c) v K - p ≤ sumG (fun j => rowC K c (σ j) * v (σ j)) K 0 := by
    have h1 := perm1 (fun k => rowC K c k * v k)
    rw [← vsN_S] at h1
    exact Nat.le_trans (Nat.sub_le _ _) h1
  have h88 : ∀ d i, i + d = K → sumG (fun j => rowC K c (σ j)) d i ≤ 8 := by
    intro d i hi
    have h1 := perm2 (rowC K c)
    have h2 := Sv_split (fun j => rowC K c (σ j)) i d 0
    rw [hi, Nat.zero_add] at h2
    have h3 : sumG (rowC K c) K 0 ≤ 8 := h8
    omega
  obtain ⟨g1, g2⟩ := cmp (σ := σ) (v := v) (r := rowC K c) (K := K) hd (fun j hj => hv _ (hσ j hj)) hs h88 K 0 (vsN (rowC K c) v K - p) (fun k => min 1000 (tb k + rowC K c k)) (fun k => min 60 (tb k + rowC K c k)) (by omega) (fun j _ hj => by
    have z1 := ht (σ j) (hσ j hj)
    have z2 := rowC_le K c (σ j)
    show min 60 (tb (σ j) + rowC K c (σ j)) = min 60 (min 1000 (tb (σ j) + rowC K c (σ j))) ∧ rowC K c (σ j) ≤ min 60 (min 1000 (tb (σ j) + rowC K c (σ j)))
    omega) (.inr hL)
  refine ⟨fun h => ⟨h.1, h.2.1, g1 h.2.2⟩, fun h hn => ?_⟩
  obtain ⟨k1, j, -, k2, k3, k4, k5⟩ := g2 h.2.2 (fun z => hn ⟨h.1, h.2.1, z⟩)
  have k4 : 61 ≤ min 1000 (tb (σ j) + rowC K c (σ j)) := k4
  clear g1 g2
  have z1 := ht (σ j) (hσ j k2)
  obtain ⟨c', hc', er⟩ := dec1 (hσ j k2) hc (show 1 ≤ rowC K c (σ j) by omega)
  have ejj : rowC K c' (σ j) = rowC K c (σ j) - 1 := by rw [er, if_pos rfl]
  have es : sC K c' + 1 = sC K c := Sv_dec (f := rowC K c) (g := rowC K c') (m := σ j) (e := 1) (fun k hk => by rw [er, if_neg hk]) (by rw [ejj]; omega) K 0 (Nat.zero_le _) (by have := hσ j k2; omega)
  have ev : vsN (rowC K c') v K + 1 = vsN (rowC K c) v K := by
    rw [vsN_S, vsN_S]
    refine Sv_dec (f := fun k => rowC K c k * v k) (g := fun k => rowC K c' k * v k) (m := σ j) (e := 1) (fun k hk => ?_) ?_ K 0 (Nat.zero_le _) (by have := hσ j k2; omega)
    · show rowC K c' k * v k = rowC K c k * v k
      rw [er, if_neg hk]
    · show rowC K c' (σ j) * v (σ j) + 1 = rowC K c (σ j) * v (σ j)
      rw [ejj, k3]
      omega
  have hpv : p ≤ vsN (rowC K c') v K := by omega
  refine ⟨c', ⟨hc', ?_, by omega⟩, by omega, fun k hk hk2 => h.1 k hk ?_, hpv, ?_⟩
  · have h1 : vsN (rowC K c') v K ≤ sC K c' * 99 := by
      rw [vsN_S]
      have h2 : sumG (fun k => rowC K c' k * v k) K 0 ≤ sumG (fun k => rowC K c' k * 99) K 0 := Sv_le K 0 (fun k _ hk => Nat.mul_le_mul_left _ (hv k (by omega)).2)
      rw [Sv_mul (rowC K c') 99 K 0] at h2
      exact h2
    omega
  · rw [er] at hk2
    by_cases e : k = σ j
    · rw [if_pos e] at hk2; omega
    · rw [if_neg e] at hk2; exact hk2
  · rw [show vsN (rowC K c') v K - p = vsN (rowC K c) v K - p - 1 by omega]
    refine k5 _ (fun j' _ hj' => ?_)
    show min 1000 (tb (σ j') + rowC K c' (σ j')) = if j' = j then min 1000 (tb (σ j') + rowC K c (σ j')) - 1 else min 1000 (tb (σ j') + rowC K c (σ j'))
    have z2 := rowC_le K c (σ j')
    have z3 := ht (σ j') (hσ j' hj')
    by_cases e : j' = j
    · rw [if_pos e, e, ejj]
      rw [e] at z2 z3
      omega
    · rw [if_neg e, er, if_neg (fun z => e (hinj j' j hj' k2 z))]
