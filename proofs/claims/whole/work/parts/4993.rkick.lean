/-! rhythms in the text -/
def isR (B : Nat → Nat) (p k : Nat) : Bool := decide (B (p + k) = 114)
def bN (B : Nat → Nat) (p : Nat) : Nat → Nat
  | 0 => 0
  | k + 1 => 2 * bN B p k + (if isR B p k = true then 1 else 0)
theorem bN_lt (B : Nat → Nat) (p : Nat) : ∀ k, bN B p k < 2 ^ k := by
  intro k
  induction k with
  | zero => exact Nat.one_pos
  | succ k ih =>
    show 2 * bN B p k + (if isR B p k = true then 1 else 0) < 2 ^ (k + 1)
    rw [Nat.pow_succ]
    by_cases q : isR B p k = true
    · rw [if_pos q]; omega
    · rw [if_neg q]; omega
theorem rev_bN (B : Nat → Nat) (p : Nat) : ∀ k, rev k (bN B p k) = sB (isR B p) k := by
  intro k
  induction k with
  | zero => rfl
  | succ k ih =>
    show ((2 * bN B p k + (if isR B p k = true then 1 else 0)) % 2) * 2 ^ k + rev k ((2 * bN B p k + (if isR B p k = true then 1 else 0)) / 2) = sB (isR B p) k + (if isR B p k = true then 2 ^ k else 0)
    by_cases q : isR B p k = true
    · rw [if_pos q, if_pos q, show (2 * bN B p k + 1) % 2 = 1 by omega, show (2 * bN B p k + 1) / 2 = bN B p k by omega, ih]
      omega
    · rw [if_neg q, if_neg q, show (2 * bN B p k + 0) % 2 = 0 by omega, show (2 * bN B p k + 0) / 2 = bN B p k by omega, ih]
      omega
theorem k_bit : ∀ b : Nat, b < 32 → ∀ s : Nat, s < 2 → ((nI b <<< ((1 : Int32) &&& 31)) ||| nI s) = nI (2 * b + s) := by
  intro b hb s hs
  have h : ∀ b : Fin 32, ∀ s : Fin 2, ((nI b.val <<< ((1 : Int32) &&& 31)) ||| nI s.val) = nI (2 * b.val + s.val) := by decide +kernel
  exact h ⟨b, hb⟩ ⟨s, hs⟩
theorem k_or6 : ∀ i : Nat, i < 6 → ∀ T : Nat, T < 2 ^ i → (nI T ||| ((1 : Int32) <<< (nI i &&& 31))) = nI (T + 2 ^ i) := by
  intro i hi T hT
  have h : ∀ i : Fin 6, ∀ T : Fin 64, T.val < 2 ^ i.val → (nI T.val ||| ((1 : Int32) <<< (nI i.val &&& 31))) = nI (T.val + 2 ^ i.val) := by decide +kernel
  exact h ⟨i, hi⟩ ⟨T, Nat.lt_of_lt_of_le hT (Nat.pow_le_pow_right (by decide) (show i ≤ 6 by omega))⟩ hT
def lr (B : Nat → Nat) (j : Nat) : Prop := B j = 108 ∨ B j = 114
theorem rh_f (N : Nat) {n : Nat} {B : Nat → Nat} {fb tx : Nat → Int32} (h : TX n B fb tx) {q : Nat} (hq : q ≤ n) (tok : Int32) {fl : Int32} (hf : ¬ fl = 0) (fa : Int32) : ∀ (d j f : Nat) (x : Int32), j + d = q → d < f → ∃ x', fX2_takeRhythm_L63 N f x (nI j) (nI q) tok fl fa (nI n) fb = some (x', fl, fa) := by
  have hn := h.1
  intro d
  induction d with
  | zero =>
    intro j f x hj hfu
    obtain ⟨f, rfl⟩ : ∃ g, f = g + 1 := ⟨f - 1, by omega⟩
    exact ⟨x, by rw [fX2_takeRhythm_L63_s, if_pos (nI_le (by omega) (by omega))]⟩
  | succ d ih =>
    intro j f x hj hfu
    obtain ⟨f, rfl⟩ : ∃ g, f = g + 1 := ⟨f - 1, by omega⟩
    rw [fX2_takeRhythm_L63_s, if_neg (nI_ge (by omega) (by omega)), t_byte N h (by omega), if_pos (show j < n by omega), fail_f N hf]
    simp only [bd_s]
    by_cases q1 : nI (B j) = 114
    · simp only [if_pos q1, lt_e, nI_1]
      by_cases q2 : nI (B j) = 108
      · rw [if_pos q2]; exact ih (j + 1) f _ (by omega) (by omega)
      · rw [if_neg q2]; exact ih (j + 1) f _ (by omega) (by omega)
    · simp only [if_neg q1, lt_e, nI_1]
      by_cases q2 : nI (B j) = 108
      · rw [if_pos q2]; exact ih (j + 1) f _ (by omega) (by omega)
      · rw [if_neg q2]; exact ih (j + 1) f _ (by omega) (by omega)
theorem rh_0 (N : Nat) {n : Nat} {B : Nat → Nat} {fb tx : Nat → Int32} (h : TX n B fb tx) {p q : Nat} (hq : q ≤ n) (tok fa : Int32) : ∀ (d k f : Nat), p + k + d = q → d < f → ((k + d ≤ 6 → (∀ j, p + k ≤ j → j < q → lr B j) → fX2_takeRhythm_L63 N f (nI (bN B p k)) (nI (p + k)) (nI q) tok 0 fa (nI n) fb = some (nI (bN B p (k + d)), 0, fa)) ∧ (∀ x : Int32, (¬ ∀ j, p + k ≤ j → j < q → lr B j) → ∃ x', fX2_takeRhythm_L63 N f x (nI (p + k)) (nI q) tok 0 fa (nI n) fb = some (x', 4, tok))) := by
  have hn := h.1
  intro d
  induction d with
  | zero =>
    intro k f hj hfu
    obtain ⟨f, rfl⟩ : ∃ g, f = g + 1 := ⟨f - 1, by omega⟩
    refine ⟨fun _ _ => ?_, fun x hno => absurd (fun j h1 h2 => by omega) hno⟩
    rw [fX2_takeRhythm_L63_s, if_pos (nI_le (by omega) (by omega))]
    rfl
  | succ d ih =>
    intro k f hj hfu
    obtain ⟨f, rfl⟩ : ∃ g, f = g + 1 := ⟨f - 1, by omega⟩
    have hb1 := t_b32 h (i := p + k) (c := 114) (by omega) (by decide)
    have hb2 := t_b32 h (i := p + k) (c := 108) (by omega) (by decide)
    obtain ⟨i1, i2⟩ := ih (k + 1) f (by omega) (by omega)
    have hB := (h.2 (p + k) (by omega)).1
    refine ⟨fun h6 hall => ?_, fun x hno => ?_⟩
    · have hlt := bN_lt B p k
      have h32 : 2 ^ k ≤ 32 := Nat.pow_le_pow_right (n := 2) (by decide) (show k ≤ 5 by omega)
      have i1 := i1 (by omega) (fun j h1 h2 => hall j (by omega) h2)
      rw [fX2_takeRhythm_L63_s, if_neg (nI_ge (by omega) (by omega)), t_byte N h (by omega), if_pos (show p + k < n by omega), fail_0]
      simp only [bd_s]
      rcases hall (p + k) (Nat.le_refl _) (by omega) with z | z
      · have z2 : ¬ isR B p k = true := by unfold isR; rw [decide_eq_true_eq]; omega
        have e : bN B p (k + 1) = 2 * bN B p k + 0 := by show 2 * bN B p k + (if isR B p k = true then 1 else 0) = _; rw [if_neg z2]
        rw [if_pos (show nI (B (p + k)) = 108 from hb2.mpr z), if_neg (show ¬ nI (B (p + k)) = 114 from fun y => by have := hb1.mp y; omega), lt_e, lt_e, nI_1, show ((nI (bN B p k) <<< ((1 : Int32) &&& 31)) ||| 0) = nI (2 * bN B p k + 0) from k_bit _ (by omega) 0 (by decide), ← e, show p + k + 1 = p + (k + 1) by omega, i1, show k + 1 + d = k + (d + 1) by omega]
      · have z2 : isR B p k = true := by unfold isR; rw [decide_eq_true_eq]; exact z
        have e : bN B p (k + 1) = 2 * bN B p k + 1 := by show 2 * bN B p k + (if isR B p k = true then 1 else 0) = _; rw [if_pos z2]
        rw [if_neg (show ¬ nI (B (p + k)) = 108 from fun y => by have := hb2.mp y; omega), if_pos (show nI (B (p + k)) = 114 from hb1.mpr z), if_pos (show nI (B (p + k)) = 114 from hb1.mpr z), lt_e, lt_e, nI_1, show ((nI (bN B p k) <<< ((1 : Int32) &&& 31)) ||| 1) = nI (2 * bN B p k + 1) from k_bit _ (by omega) 1 (by decide), ← e, show p + k + 1 = p + (k + 1) by omega, i1, show k + 1 + d = k + (d + 1) by omega]
    · rw [fX2_takeRhythm_L63_s, if_neg (nI_ge (by omega) (by omega)), t_byte N h (by omega), if_pos (show p + k < n by omega), fail_0]
      simp only [bd_s]
      by_cases hk : lr B (p + k)
      · have hno' : ¬ ∀ j, p + (k + 1) ≤ j → j < q → lr B j := fun y => hno (fun j h1 h2 => by
          by_cases e : j = p + k
          · rw [e]; exact hk
          · exact y j (by omega) h2)
        rcases hk with z | z
        · rw [if_pos (show nI (B (p + k)) = 108 from hb2.mpr z), if_neg (show ¬ nI (B (p + k)) = 114 from fun y => by have := hb1.mp y; omega), lt_e, lt_e, nI_1]
          exact i2 _ hno'
        · rw [if_neg (show ¬ nI (B (p + k)) = 108 from fun y => by have := hb2.mp y; omega), if_pos (show nI (B (p + k)) = 114 from hb1.mpr z), if_pos (show nI (B (p + k)) = 114 from hb1.mpr z), lt_e, lt_e, nI_1]
          exact i2 _ hno'
      · have n1 : ¬ nI (B (p + k)) = 108 := fun y => hk (.inl (hb2.mp y))
        have n2 : ¬ nI (B (p + k)) = 114 := fun y => hk (.inr (hb1.mp y))
        rw [if_neg n1, if_neg n2, if_neg n2, lt_e, lt_e, nI_1]
        exact rh_f N h hq tok (by decide) tok d (p + k + 1) f _ (by omega) (by omega)
theorem isr_0 (N f : Nat) (x2 first len : Int32) (tx : Nat → Int32) : fX8_isRow_L17 N (f + 1) 0 x2 first len tx = some 0 := by
  rw [fX8_isRow_L17_s]
  by_cases q : len ≤ x2
  · rw [if_pos q]
  · rw [if_neg q, if_pos rfl]
theorem isr_L (N : Nat) {n : Nat} {B : Nat → Nat} {fb tx : Nat → Int32} (h : TX n B fb tx) {p q : Nat} (hpq : p ≤ q) (hq : q ≤ n) : ∀ (d k f : Nat), p + k + d = q → d < f → ((∀ j, p + k ≤ j → j < q → lr B j) → fX8_isRow_L17 N f 1 (nI k) (nI p) (nI (q - p)) tx = some 1) ∧ ((¬ ∀ j, p + k ≤ j → j < q → lr B j) → fX8_isRow_L17 N f 1 (nI k) (nI p) (nI (q - p)) tx = some 0) := by
  have hn := h.1
  intro d
  induction d with
  | zero =>
    intro k f hj hfu
    obtain ⟨f, rfl⟩ : ∃ g, f = g + 1 := ⟨f - 1, by omega⟩
    refine ⟨fun _ => ?_, fun hno => absurd (fun j h1 h2 => by omega) hno⟩
    rw [fX8_isRow_L17_s, if_pos (nI_le (by omega) (by omega))]
  | succ d ih =>
    intro k f hj hfu
    obtain ⟨f, rfl⟩ : ∃ g, f = g + 1 := ⟨f - 1, by omega⟩
    have hb1 := t_b32 h (i := p + k) (c := 114) (by omega) (by decide)
    have hb2 := t_b32 h (i := p + k) (c := 108) (by omega) (by decide)
    obtain ⟨i1, i2⟩ := ih (k + 1) f (by omega) (by omega)
    rw [fX8_isRow_L17_s, if_neg (nI_ge (by omega) (by omega)), if_neg (show ¬ (1 : Int32) = 0 by decide), nI_add, ck_nI (by omega) (by decide), nI_clamp (by omega), (h.2 (p + k) (by omega)).2.2]
    by_cases hk : lr B (p + k)
    · have go : ∀ (r : Option Int32), (if nI (B (p + k)) = 108 then lt (nI k + 1) fun n5 => fX8_isRow_L17 N f 1 n5 (nI p) (nI (q - p)) tx else (if nI (B (p + k)) = 114 then lt (nI k + 1) fun n8 => fX8_isRow_L17 N f 1 n8 (nI p) (nI (q - p)) tx else lt (nI k + 1) fun n7 => fX8_isRow_L17 N f 0 n7 (nI p) (nI (q - p)) tx)) = fX8_isRow_L17 N f 1 (nI (k + 1)) (nI p) (nI (q - p)) tx := fun _ => by
        rcases hk with z | z
        · rw [if_pos (show nI (B (p + k)) = 108 from hb2.mpr z), lt_e, nI_1]
        · rw [if_neg (show ¬ nI (B (p + k)) = 108 from fun y => by have := hb2.mp y; omega), if_pos (show nI (B (p + k)) = 114 from hb1.mpr z), lt_e, nI_1]
      rw [go none]
      refine ⟨fun hall => i1 (fun j h1 h2 => hall j (by omega) h2), fun hno => i2 (fun y => hno (fun j h1 h2 => ?_))⟩
      by_cases e : j = p + k
      · rw [e]; exact hk
      · exact y j (by omega) h2
    · rw [if_neg (show ¬ nI (B (p + k)) = 108 from fun y => hk (.inl (hb2.mp y))), if_neg (show ¬ nI (B (p + k)) = 114 from fun y => hk (.inr (hb1.mp y))), lt_e]
      refine ⟨fun hall => absurd (hall (p + k) (Nat.le_refl _) (by omega)) hk, fun _ => ?_⟩
      obtain ⟨f, rfl⟩ : ∃ g, f = g + 1 := ⟨f - 1, by omega⟩
      exact isr_0 N f _ _ _ tx
theorem l108 (N : Nat) {n : Nat} {B : Nat → Nat} {fb tx : Nat → Int32} (h : TX n B fb tx) {p q : Nat} (hpq : p ≤ q) (hq : q ≤ n) (h6 : q - p ≤ 6) (x1 : Int32) : ∀ (d k f : Nat), p + k + d = q → d < f → fX8_takeKick_L108 N f x1 (nI (sB (isR B p) k)) (nI k) (nI p) (nI (q - p)) tx = some (nI (sB (isR B p) (q - p))) := by
  have hn := h.1
  intro d
  induction d with
  | zero =>
    intro k f hj hfu
    obtain ⟨f, rfl⟩ : ∃ g, f = g + 1 := ⟨f - 1, by omega⟩
    rw [fX8_takeKick_L108_s, if_pos (nI_le (by omega) (by omega)), show k = q - p by omega]
  | succ d ih =>
    intro k f hj hfu
    obtain ⟨f, rfl⟩ : ∃ g, f = g + 1 := ⟨f - 1, by omega⟩
    have hb1 := t_b32 h (i := p + k) (c := 114) (by omega) (by decide)
    have ih := ih (k + 1) f (by omega) (by omega)
    have hs := sB_s (isR B p) k
    rw [fX8_takeKick_L108_s, if_neg (nI_ge (by omega) (by omega)), nI_add, ck_nI (by omega) (by decide), nI_clamp (by omega), (h.2 (p + k) (by omega)).2.2]
    by_cases z : B (p + k) = 114
    · have z2 : isR B p k = true := by unfold isR; rw [decide_eq_true_eq]; exact z
      rw [if_pos z2] at hs
      rw [if_pos (show nI (B (p + k)) = 114 from hb1.mpr z), one_1, bd_s, k_or6 k (by omega) _ (sB_lt _ k), ← hs, lt_e, lt_e, nI_1]
      exact ih
    · have z2 : ¬ isR B p k = true := by unfold isR; rw [decide_eq_true_eq]; exact z
      replace hs : sB (isR B p) (k + 1) = sB (isR B p) k := by rw [hs, if_neg z2]; rfl
      rw [if_neg (show ¬ nI (B (p + k)) = 114 from fun y => z (hb1.mp y)), one_0, bd_s, sh_0 k (by omega), or_0, lt_e, lt_e, nI_1, ← hs]
      exact ih
/-- what is told of a column's rhythm, on both sides -/
def RDR (C T : Nat) (rlen rhythm mr ml : Nat → Int32) : Prop := T < 32 ∧ (∀ c, c < C → (T.testBit c = false ∧ rlen c = 0 ∧ rhythm c = 0 ∧ ml (5 + c) = 1 ∧ mr (5 + c) = 0) ∨ (T.testBit c = true ∧ ∃ m b : Nat, 1 ≤ m ∧ m ≤ 6 ∧ b < 2 ^ m ∧ rlen c = nI m ∧ rhythm c = nI b ∧ ml (5 + c) = nI m ∧ mr (5 + c) = nI (rev m b))) ∧ ∀ c, C ≤ c → c < 5 → T.testBit c = false ∧ rlen c = 0 ∧ rhythm c = 0
theorem xrh_f (N : Nat) {fl : Int32} (hf : ¬ fl = 0) (a t fa n : Int32) (fb : Nat → Int32) : fX2_takeRhythm N a t fl fa n fb = some (0, a, t, fl, fa) := by
  unfold fX2_takeRhythm
  rw [if_neg hf]
theorem x_hasR (N : Nat) {C : Nat} (hC : C ≤ 5) (rlen : Nat → Int32) (x : Int32) : ∃ r : Int32, fX1_hasRhythm N (nI C) rlen x = some r := by
  unfold fX1_hasRhythm
  rcases p_ran N C hC x with ⟨-, a1, -⟩ | ⟨j, hj, rfl, a1, -⟩
  · rw [a1]; exact ⟨0, rfl⟩
  · rw [a1, bd_s, if_neg (show ¬ (1 : Int32) = 0 by decide), ck_nI (by omega) (by decide)]
    exact ite_some ⟨_, rfl⟩ ⟨_, rfl⟩
set_option maxHeartbeats 4000000 in
theorem t_kick (N : Nat) (hN : 1000 ≤ N) {n : Nat} {B : Nat → Nat} {fb tx : Nat → Int32} (h : TX n B fb tx) {i : Nat} (hi : i ≤ n) {C T : Nat} (hC : C ≤ 5) (tok first len fa : Int32) {rlen rhythm mr ml : Nat → Int32} (hR : RDR C T rlen rhythm mr ml) : (∃ (fl fa' told' : Int32) (j j2 : Nat) (tok' fi' len' : Int32), (fl = 1 ∨ fl = 2 ∨ fl = 4) ∧ j ≤ 1000 ∧ fX2_readKick N (nI i) tok 0 fa (nI C) (nI n) fb rlen rhythm = some (nI j, tok', fl, fa', rlen, rhythm) ∧ fX8_takeKick N (nI C) (nI T) (nI n) (nI i) first len 0 fa tx mr ml = some (told', nI j2, fi', len', fl, fa', mr, ml)) ∨ (∃ (i3 c m b : Nat) (tok' fi' len' : Int32), i ≤ i3 ∧ i3 ≤ n ∧ c < C ∧ T.testBit c = false ∧ 1 ≤ m ∧ m ≤ 6 ∧ b < 2 ^ m ∧ fX8_takeKick N (nI C) (nI T) (nI n) (nI i) first len 0 fa tx mr ml = some (nI (T ||| 2 ^ c), nI i3, fi', len', 0, fa, upd mr (5 + c) (nI (rev m b)), upd ml (5 + c) (nI m)) ∧ (∀ j, fX2_takeEnd N (nI i3) 0 fa (nI n) fb = some (nI j, 0, fa) → fX2_readKick N (nI i) tok 0 fa (nI C) (nI n) fb rlen rhythm = some (nI j, tok', 0, fa, upd rlen c (nI m), upd rhythm c (nI b))) ∧ (∀ (j : Nat) (fl fa' : Int32), ¬ fl = 0 → fX2_takeEnd N (nI i3) 0 fa (nI n) fb = some (nI j, fl, fa') → fX2_readKick N (nI i) tok 0 fa (nI C) (nI n) fb rlen rhythm = some (nI j, tok', fl, fa', rlen, rhythm))) := by
  have hn := h.1
  obtain ⟨hT, hR1, hR2⟩ := hR
  unfold fX2_readKick fX8_takeKick
  obtain ⟨v, p1, q1, m1, a1, a2, a3, H1⟩ := t_num N hN h hi tok first fa 0 (nI C - 1)
  rcases H1 with ⟨x1, y1, l1, l2, l3⟩ | ⟨fl, hfl, x1, y1⟩
  case inr =>
    obtain ⟨f0, f1⟩ := fl12 hfl
    left
    obtain ⟨r, hr⟩ := x_hasR N hC rlen (nI v)
    refine ⟨fl, nI p1, nI T, q1, q1, nI p1, nI p1, len, by rcases hfl with z | z <;> simp [z], by omega, ?_, ?_⟩
    · rw [x1, bd_s]
      dsimp only
      rw [hr, bd_s]
      by_cases z : r = 0
      · rw [if_pos z, xrh_f N f0, bd_s]
        dsimp only
        rw [lt_e, xend_f N f0, bd_s]
        dsimp only
        rw [if_neg f0]
      · rw [if_neg z, fail_f N f0, bd_s]
        dsimp only
        rw [xrh_f N f0, bd_s]
        dsimp only
        rw [lt_e, xend_f N f0, bd_s]
        dsimp only
        rw [if_neg f0]
    · rw [y1, bd_s]
      dsimp only
      rw [if_pos (show (0 : Int32) < fl from by rcases hfl with rfl | rfl <;> decide)]
  rw [subN C hC] at l3
  have hc : v < C := by omega
  rw [x1, bd_s, y1, bd_s]
  dsimp only
  rw [if_neg (show ¬ (0 : Int32) < 0 by decide), b_has N T (by omega) v (by omega), bd_s]
  have hcol : fX1_isColumn N (nI C) (nI v) = some 1 := by
    rcases p_ran N C hC (nI v) with ⟨z, -⟩ | ⟨j, hj, e, z, -⟩
    · exact absurd ⟨v, hc, rfl⟩ z
    · exact z
  rcases hR1 v hc with ⟨t1, t2, t3, t4, t5⟩ | ⟨t1, m, b, u1, u2, u3, u4, u5, u6, u7⟩
  case inr =>
    left
    have hh : fX1_hasRhythm N (nI C) rlen (nI v) = some 1 := by
      unfold fX1_hasRhythm
      rw [hcol, bd_s, if_neg (show ¬ (1 : Int32) = 0 by decide), ck_nI (by omega) (by decide), nI_clamp (by omega), u4, if_neg (nI_nle (by omega) (by omega))]
    rw [hh, bd_s, if_neg (show ¬ (1 : Int32) = 0 by decide), fail_0, bd_s, t1, if_pos rfl, if_neg (show ¬ (1 : Int32) = 0 by decide), want_0 N (by decide), bd_s]
    dsimp only
    rw [xrh_f N (by decide), bd_s, if_pos (show (0 : Int32) = 0 from rfl)]
    dsimp only
    rw [lt_e, xend_f N (by decide), bd_s]
    dsimp only
    rw [if_neg (show ¬ (4 : Int32) = 0 by decide)]
    exact ⟨4, nI p1, nI T, q1, q1, nI p1, nI p1, len, .inr (.inr rfl), by omega, rfl, rfl⟩
  have hh : fX1_hasRhythm N (nI C) rlen (nI v) = some 0 := by
    unfold fX1_hasRhythm
    rw [hcol, bd_s, if_neg (show ¬ (1 : Int32) = 0 by decide), ck_nI (by omega) (by decide), nI_clamp (by omega), t2, if_pos (by decide)]
  rw [hh, bd_s, if_pos (show (0 : Int32) = 0 from rfl), t1, if_neg (show ¬ (false = true) by decide), if_pos (show (0 : Int32) = 0 from rfl), want_1, bd_s]
  dsimp only
  rw [if_neg (show ¬ (1 : Int32) = 0 by decide), b_or T (by omega) v (by omega), lt_e]
  obtain ⟨p2, q2, c1, c2, c3, k1, k2⟩ := t_word N hN h (i := q1) a3 (nI p1) (nI p1) len
  unfold fX2_takeRhythm
  rw [if_pos (show (0 : Int32) = 0 from rfl), k1, bd_s, k2, bd_s]
  dsimp only
  rw [s_sub c2]
  by_cases e0 : q2 = p2
  · -- no letter
    left
    subst e0
    rw [if_pos (show nI q2 = nI q2 from rfl), Nat.sub_self, if_pos (show nI 0 ≤ 0 by decide), fail_0, bd_s, want_0 N (by decide), bd_s]
    dsimp only
    obtain ⟨x', hx'⟩ := rh_f N h (q := q2) c3 (nI q2) (show ¬ (1 : Int32) = 0 by decide) (nI q2) 0 q2 N 0 (by omega) (by omega)
    rw [if_pos (show nI 0 ≤ 6 by decide), hx', if_pos (show (0 : Int32) = 0 from rfl), bd_s]
    dsimp only
    rw [bd_s]
    dsimp only
    rw [lt_e, xend_f N (by decide), bd_s]
    dsimp only
    rw [if_neg (show ¬ (1 : Int32) = 0 by decide)]
    exact ⟨1, nI q2, _, q2, q2, nI q2, nI q2, nI 0, .inl rfl, by omega, rfl, rfl⟩
  have e1 : ¬ nI q2 = nI p2 := fun z => e0 ((nI_eq (by omega) (by omega)).mp z)
  rw [if_neg e1, if_neg (nI_nle (show 0 < q2 - p2 by omega) (by omega)), want_1, bd_s]
  dsimp only
  rw [if_neg (show ¬ (1 : Int32) = 0 by decide)]
  unfold fX8_isRow
  by_cases e6 : q2 - p2 ≤ 6
  · rw [if_pos (show nI (q2 - p2) ≤ 6 from (s_le (b := 6) (by omega) (by decide)).mpr e6), if_neg (show ¬ (6 : Int32) < nI (q2 - p2) from fun z => by have := (s_lt (a := 6) (by decide) (by omega)).mp z; omega)]
    obtain ⟨g1, g2⟩ := rh_0 N h (p := p2) (q := q2) c3 (nI p2) fa (q2 - p2) 0 N (by omega) (by omega)
    obtain ⟨w1, w2⟩ := isr_L N h (p := p2) (q := q2) c2 c3 (q2 - p2) 0 N (by omega) (by omega)
    by_cases hall : ∀ j, p2 + 0 ≤ j → j < q2 → lr B j
    · right
      have g1 : fX2_takeRhythm_L63 N N 0 (nI p2) (nI q2) (nI p2) 0 fa (nI n) fb = some (nI (bN B p2 (q2 - p2)), 0, fa) := by
        have z := g1 (by omega) hall
        rw [Nat.zero_add] at z
        exact z
      have w1 : fX8_isRow_L17 N N 1 0 (nI p2) (nI (q2 - p2)) tx = some 1 := w1 hall
      have g8 := l108 N h (p := p2) (q := q2) c2 c3 e6 (nI v) (q2 - p2) 0 N (by omega) (by omega)
      have g8 : fX8_takeKick_L108 N N (nI v) 0 0 (nI p2) (nI (q2 - p2)) tx = _ := g8
      have hbl := bN_lt B p2 (q2 - p2)
      rw [w1, bd_s, bl_1, bd_s, want_1, bd_s]
      dsimp only
      rw [if_neg (show ¬ (1 : Int32) = 0 by decide), g8, bd_s, show (5 : Int32) + nI v = nI (5 + v) from nI_add 5 v, ck_nI (by omega) (by decide), nI_clamp (by omega), g1, bd_s]
      dsimp only
      rw [bd_s]
      dsimp only
      rw [lt_e, s_sub c2]
      refine ⟨q2, v, q2 - p2, bN B p2 (q2 - p2), nI p2, nI p2, nI (q2 - p2), by omega, c3, hc, t1, by omega, e6, hbl, ?_, fun j hj => ?_, fun j fl fa' hfl hj => ?_⟩
      · rw [rev_bN]
      · rw [hj, bd_s]
        dsimp only
        rw [if_pos (show (0 : Int32) = 0 from rfl)]
        unfold fX1_setRhythm
        rw [hcol, bd_s, if_neg (show ¬ (1 : Int32) = 0 by decide), ck_nI (by omega) (by decide), bd_s]
        dsimp only
        rw [nI_clamp (by omega)]
      · rw [hj, bd_s]
        dsimp only
        rw [if_neg hfl]
    · left
      obtain ⟨x', g2⟩ := g2 0 hall
      have g2 : fX2_takeRhythm_L63 N N 0 (nI p2) (nI q2) (nI p2) 0 fa (nI n) fb = some (x', 4, nI p2) := g2
      have w2 : fX8_isRow_L17 N N 1 0 (nI p2) (nI (q2 - p2)) tx = some 0 := w2 hall
      rw [w2, bd_s, bl_0, bd_s, want_0 N (by decide), bd_s]
      dsimp only
      rw [if_pos (show (0 : Int32) = 0 from rfl), g2, bd_s]
      dsimp only
      rw [bd_s]
      dsimp only
      rw [lt_e, xend_f N (by decide), bd_s]
      dsimp only
      rw [if_neg (show ¬ (4 : Int32) = 0 by decide)]
      exact ⟨4, nI p2, _, q2, q2, nI p2, nI p2, nI (q2 - p2), .inr (.inr rfl), by omega, rfl, rfl⟩
  · left
    rw [if_neg (show ¬ nI (q2 - p2) ≤ 6 from fun z => e6 ((s_le (b := 6) (by omega) (by decide)).mp z)), if_pos (show (6 : Int32) < nI (q2 - p2) from (s_lt (a := 6) (by decide) (by omega)).mpr (by omega)), fail_0, bd_s]
    dsimp only
    obtain ⟨x', hx'⟩ := rh_f N h (q := q2) c3 (nI p2) (show ¬ (4 : Int32) = 0 by decide) (nI p2) (q2 - p2) p2 N 0 (by omega) (by omega)
    have w0 : fX8_isRow_L17 N N 0 0 (nI p2) (nI (q2 - p2)) tx = some 0 := by
      obtain ⟨g, rfl⟩ : ∃ g, N = g + 1 := ⟨N - 1, by omega⟩
      exact isr_0 _ _ _ _ _ tx
    rw [w0, bd_s, bl_0, bd_s, want_0 N (by decide), bd_s]
    dsimp only
    rw [if_pos (show (0 : Int32) = 0 from rfl), hx', bd_s]
    dsimp only
    rw [bd_s]
    dsimp only
    rw [lt_e, xend_f N (by decide), bd_s]
    dsimp only
    rw [if_neg (show ¬ (4 : Int32) = 0 by decide)]
    exact ⟨4, nI p2, _, q2, q2, nI p2, nI p2, nI (q2 - p2), .inr (.inr rfl), by omega, rfl, rfl⟩
