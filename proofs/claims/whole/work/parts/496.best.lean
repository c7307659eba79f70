/-! the best span -/
def cN (p : Nat → Bool) : Nat → Nat
  | 0 => 0
  | n + 1 => cN p n + (if p n = true then 1 else 0)
theorem cN_s (p : Nat → Bool) (n : Nat) : cN p (n + 1) = cN p n + (if p n = true then 1 else 0) := rfl
theorem sB_s (p : Nat → Bool) (n : Nat) : sB p (n + 1) = sB p n + (if p n = true then 2 ^ n else 0) := rfl
theorem cN_le (p : Nat → Bool) : ∀ n, cN p n ≤ n := by
  intro n
  induction n with
  | zero => exact Nat.le_refl _
  | succ n ih =>
    rw [cN_s]
    by_cases q : p n = true
    · rw [if_pos q]; omega
    · rw [if_neg q]; omega
theorem cN_cong {p q : Nat → Bool} : ∀ n, (∀ i, i < n → p i = q i) → cN p n = cN q n := by
  intro n
  induction n with
  | zero => intro _; rfl
  | succ n ih =>
    intro h
    rw [cN_s, cN_s, ih (fun i hi => h i (by omega)), h n (by omega)]
theorem sB_cong {p q : Nat → Bool} : ∀ n, (∀ i, i < n → p i = q i) → sB p n = sB q n := by
  intro n
  induction n with
  | zero => intro _; rfl
  | succ n ih =>
    intro h
    rw [sB_s, sB_s, ih (fun i hi => h i (by omega)), h n (by omega)]
theorem cN_zero (p : Nat → Bool) : ∀ n, cN p n = 0 ↔ ∀ i, i < n → ¬ p i = true := by
  intro n
  induction n with
  | zero => exact ⟨fun _ i hi => by omega, fun _ => rfl⟩
  | succ n ih =>
    rw [cN_s]
    by_cases q : p n = true
    · rw [if_pos q]
      exact ⟨fun h => by omega, fun h => absurd q (h n (by omega))⟩
    · rw [if_neg q, Nat.add_zero, ih]
      refine ⟨fun h i hi => ?_, fun h i hi => h i (by omega)⟩
      by_cases e : i = n
      · rw [e]; exact q
      · exact h i (by omega)
theorem sB_zero (p : Nat → Bool) : ∀ n, sB p n = 0 ↔ cN p n = 0 := by
  intro n
  induction n with
  | zero => exact ⟨fun _ => rfl, fun _ => rfl⟩
  | succ n ih =>
    rw [sB_s, cN_s]
    by_cases q : p n = true
    · rw [if_pos q, if_pos q]
      have : 0 < 2 ^ n := Nat.pow_pos (by decide)
      exact ⟨fun h => by omega, fun h => by omega⟩
    · rw [if_neg q, if_neg q, Nat.add_zero, Nat.add_zero, ih]
theorem bc_p (N : Nat) (p : Nat → Bool) : ∀ K, K ≤ 5 → fJ6_bitCount_0f7a4 N (nI (sB p K)) = some (nI (cN p K)) := by
  intro K hK
  rcases (show K = 0 ∨ K = 1 ∨ K = 2 ∨ K = 3 ∨ K = 4 ∨ K = 5 by omega) with rfl | rfl | rfl | rfl | rfl | rfl <;> simp only [sB, cN] <;> generalize p 0 = b0 <;> generalize p 1 = b1 <;> generalize p 2 = b2 <;> generalize p 3 = b3 <;> generalize p 4 = b4 <;> unfold fJ6_bitCount_0f7a4 <;> cases b0 <;> cases b1 <;> cases b2 <;> cases b3 <;> cases b4 <;> decide +kernel
theorem ex_min (v : Nat → Nat) (p : Nat → Bool) : ∀ n, (∃ k, k < n ∧ p k = true) → ∃ i, i < n ∧ p i = true ∧ ∀ k, k < n → p k = true → v i ≤ v k := by
  intro n
  induction n with
  | zero => rintro ⟨k, hk, -⟩; omega
  | succ n ih =>
    intro h
    by_cases q : ∃ k, k < n ∧ p k = true
    · obtain ⟨i, hi, hp, hm⟩ := ih q
      by_cases q2 : p n = true ∧ v n < v i
      · refine ⟨n, by omega, q2.1, fun k hk hpk => ?_⟩
        by_cases e : k = n
        · rw [e]; exact Nat.le_refl _
        · have := hm k (by omega) hpk; have := q2.2; omega
      · refine ⟨i, by omega, hp, fun k hk hpk => ?_⟩
        by_cases e : k = n
        · subst e
          rcases Nat.lt_or_ge (v k) (v i) with z | z
          · exact absurd ⟨hpk, z⟩ q2
          · exact z
        · exact hm k (by omega) hpk
    · obtain ⟨k, hk, hp⟩ := h
      have e : k = n := by
        rcases Nat.lt_or_ge k n with z | z
        · exact absurd ⟨k, z, hp⟩ q
        · omega
      refine ⟨k, hk, hp, fun k2 hk2 hp2 => ?_⟩
      by_cases e2 : k2 = n
      · rw [e, e2]; exact Nat.le_refl _
      · exact absurd ⟨k2, by omega, hp2⟩ q
theorem ex_max (v : Nat → Nat) (p : Nat → Bool) (n : Nat) (hb : ∀ k, k < n → v k ≤ 99) (h : ∃ k, k < n ∧ p k = true) : ∃ i, i < n ∧ p i = true ∧ ∀ k, k < n → p k = true → v k ≤ v i := by
  obtain ⟨i, hi, hp, hm⟩ := ex_min (fun k => 99 - v k) p n h
  refine ⟨i, hi, hp, fun k hk hpk => ?_⟩
  have h1 : 99 - v i ≤ 99 - v k := hm k hk hpk
  have h2 := hb i hi
  have h3 := hb k hk
  omega
def inN (v : Nat → Nat) (a b k : Nat) : Bool := decide (a ≤ v k ∧ v k ≤ b)
theorem inN_t {v : Nat → Nat} {a b k : Nat} : inN v a b k = true ↔ a ≤ v k ∧ v k ≤ b := by
  unfold inN; rw [decide_eq_true_eq]
def rkN (wt sl : Nat → Nat) (K S a b : Nat) : Nat := if b < a ∨ cN (inN sl a b) S ≠ 0 then 0 else 10000 * cN (inN wt a b) K + 100 * (99 - (b - a)) + (99 - a)
def enc (r : Nat) : Int32 := if r = 0 then -1 else nI r
theorem rk_le (wt sl : Nat → Nat) (K S a b : Nat) (hK : K ≤ 5) : rkN wt sl K S a b ≤ 60000 := by
  have h := cN_le (inN wt a b) K
  unfold rkN
  by_cases q : b < a ∨ cN (inN sl a b) S ≠ 0
  · rw [if_pos q]; omega
  · rw [if_neg q]; omega
theorem enc_max {x y : Nat} (hx : x ≤ 60000) (hy : y ≤ 60000) : (if enc x < enc y then enc y else enc x) = enc (max x y) := by
  have hn : ∀ z : Nat, z ≤ 60000 → (enc z).toInt = if z = 0 then -1 else (z : Int) := by
    intro z hz
    unfold enc
    by_cases q : z = 0
    · rw [if_pos q, if_pos q]; rfl
    · rw [if_neg q, if_neg q, nIt z (by omega)]
  by_cases q : enc x < enc y
  · rw [if_pos q]
    rw [lt32, hn x hx, hn y hy] at q
    congr 1
    by_cases q1 : x = 0
    · omega
    · rw [if_neg q1] at q
      by_cases q2 : y = 0
      · rw [if_pos q2] at q; omega
      · rw [if_neg q2] at q; omega
  · rw [if_neg q]
    rw [lt32, hn x hx, hn y hy] at q
    congr 1
    by_cases q2 : y = 0
    · omega
    · rw [if_neg q2] at q
      by_cases q1 : x = 0
      · rw [if_pos q1] at q; omega
      · rw [if_neg q1] at q; omega
/-- what both sides speak of: weights now and slugs as plain numbers -/
def NUM (K S : Nat) (worn : Int32) (weight slug : Nat → Int32) (wt sl : Nat → Nat) : Prop := K ≤ 5 ∧ S ≤ 5 ∧ (∀ k, k < K → weight k - worn = nI (wt k) ∧ 1 ≤ wt k ∧ wt k ≤ 99) ∧ ∀ i, i < S → slug i = nI (sl i) ∧ 1 ≤ sl i ∧ sl i ≤ 99
theorem in_eq {a b : Nat} (ha : a ≤ 99) (hb : b ≤ 99) {v : Nat → Int32} {n : Nat → Nat} {k : Nat} (e : v k = nI (n k)) (h : n k ≤ 99) : inS (nI a) (nI b) v k = inN n a b k := by
  unfold inS inN
  rw [e, nIt a (by omega), nIt b (by omega), nIt _ (by omega)]
  congr 1
  exact propext ⟨fun z => by omega, fun z => by omega⟩
theorem p_rank (N : Nat) (hN : 10 ≤ N) {K S : Nat} {worn : Int32} {weight slug : Nat → Int32} {wt sl : Nat → Nat} (h : NUM K S worn weight slug wt sl) {a b : Nat} (ha1 : 1 ≤ a) (ha : a ≤ 99) (hb : b ≤ 99) : fX7_rankOfSpan N (nI K) (nI S) slug worn weight (nI a) (nI b) = some (enc (rkN wt sl K S a b)) := by
  obtain ⟨hK, hS, hw, hs⟩ := h
  unfold fX7_rankOfSpan
  by_cases q1 : b < a
  · rw [if_pos ((s_lt (by omega) (by omega)).mpr q1)]
    unfold rkN
    rw [if_pos (.inl q1)]
    rfl
  · rw [if_neg (fun z => q1 ((s_lt (by omega) (by omega)).mp z)), c_slugs N hN hS, bd_s, sB_cong (q := inN sl a b) S (fun i hi => in_eq ha hb (hs i hi).1 (hs i hi).2.2)]
    have hlt : sB (inN sl a b) S < 2 ^ 5 := Nat.lt_of_lt_of_le (sB_lt _ S) (Nat.pow_le_pow_right (by decide) hS)
    by_cases q2 : cN (inN sl a b) S = 0
    · rw [if_pos (show nI (sB (inN sl a b) S) = 0 from by rw [(sB_zero _ S).mpr q2]; rfl), c_kinds N hN hK, bd_s, sB_cong (q := inN wt a b) K (fun k hk => in_eq (v := fun k => weight k - worn) ha hb (hw k hk).1 (hw k hk).2.2), bc_p N _ K hK, bd_s, lt_e]
      have hc := cN_le (inN wt a b) K
      have hr : rkN wt sl K S a b = 10000 * cN (inN wt a b) K + 100 * (99 - (b - a)) + (99 - a) := by
        unfold rkN
        rw [if_neg (fun z => by rcases z with z | z; exact q1 z; exact z q2)]
      rw [s_sub (show a ≤ b by omega), show (99 : Int32) - nI (b - a) = nI (99 - (b - a)) from s_sub (a := 99) (show b - a ≤ 99 by omega), show (100 : Int32) * nI (99 - (b - a)) = nI (100 * (99 - (b - a))) from s_mul 100 _, show (10000 : Int32) * nI (cN (inN wt a b) K) = nI (10000 * cN (inN wt a b) K) from s_mul 10000 _, nI_add, show nI (10000 * cN (inN wt a b) K + 100 * (99 - (b - a))) + 99 = nI (10000 * cN (inN wt a b) K + 100 * (99 - (b - a)) + 99) from nI_add _ 99, s_sub (show a ≤ 10000 * cN (inN wt a b) K + 100 * (99 - (b - a)) + 99 by omega)]
      unfold enc
      rw [if_neg (by rw [hr]; omega), hr]
      congr 2
      omega
    · rw [if_neg (show ¬ nI (sB (inN sl a b) S) = 0 from fun z => q2 ((sB_zero _ S).mp ((nI_eq (b := 0) (by omega) (by decide)).mp z)))]
      unfold rkN
      rw [if_pos (.inr q2)]
      rfl
theorem mx_att {wt sl : Nat → Nat} {K S r r1 r' a b : Nat} (ha : 1 ≤ a) (ha2 : a ≤ 99) (hb : b ≤ 99) (e : r1 = max r (rkN wt sl K S a b)) (h : r' = r1 ∨ ∃ a b : Nat, 1 ≤ a ∧ a ≤ b ∧ b ≤ 99 ∧ r' = rkN wt sl K S a b) : (r' = r ∨ ∃ a b : Nat, 1 ≤ a ∧ a ≤ b ∧ b ≤ 99 ∧ r' = rkN wt sl K S a b) := by
  rcases h with h | h
  · by_cases q : r1 = r
    · left; omega
    · right
      refine ⟨a, b, ha, ?_, hb, by omega⟩
      rcases Nat.lt_or_ge b a with z | z
      · have : rkN wt sl K S a b = 0 := by unfold rkN; rw [if_pos (.inl z)]
        omega
      · exact z
  · exact .inr h
theorem x_L4 (N : Nat) (hN : 200 ≤ N) {K S : Nat} {worn : Int32} {weight slug : Nat → Int32} {wt sl : Nat → Nat} (h : NUM K S worn weight slug wt sl) : ∀ (d a f r : Nat), a + d = 100 → 1 ≤ a → d < f → r ≤ 60000 → ∃ r' : Nat, fX7_rankOfBestSpan_L4 N f (enc r) (nI a) (nI K) (nI S) slug worn weight = some (enc r') ∧ r' ≤ 60000 ∧ r ≤ r' ∧ (∀ a', a ≤ a' → a' ≤ 99 → rkN wt sl K S a' a' ≤ r') ∧ (r' = r ∨ ∃ a b : Nat, 1 ≤ a ∧ a ≤ b ∧ b ≤ 99 ∧ r' = rkN wt sl K S a b) := by
  intro d
  induction d with
  | zero =>
    intro a f r ha h1 hf hr
    obtain ⟨f, rfl⟩ : ∃ g, f = g + 1 := ⟨f - 1, by omega⟩
    refine ⟨r, ?_, hr, Nat.le_refl _, fun a' z1 z2 => by omega, .inl rfl⟩
    rw [fX7_rankOfBestSpan_L4_s, if_pos (show (99 : Int32) < nI a from (s_lt (a := 99) (by decide) (by omega)).mpr (by omega))]
  | succ d ih =>
    intro a f r ha h1 hf hr
    obtain ⟨f, rfl⟩ : ∃ g, f = g + 1 := ⟨f - 1, by omega⟩
    have hk := rk_le wt sl K S a a h.1
    obtain ⟨r', e1, e2, e3, e4, e5⟩ := ih (a + 1) f (max r (rkN wt sl K S a a)) (by omega) (by omega) (by omega) (by omega)
    refine ⟨r', ?_, e2, by omega, fun a' z1 z2 => ?_, mx_att h1 (by omega) (by omega) rfl e5⟩
    · rw [fX7_rankOfBestSpan_L4_s, if_neg (show ¬ (99 : Int32) < nI a from fun z => by have := (s_lt (a := 99) (by decide) (by omega)).mp z; omega), p_rank N (by omega) h h1 (by omega) (by omega), bd_s, enc_max hr hk, lt_e, lt_e, nI_1]
      exact e1
    · by_cases q : a' = a
      · rw [q]; omega
      · exact e4 a' (by omega) z2
theorem x_L42 (N : Nat) (hN : 200 ≤ N) {K S : Nat} {worn : Int32} {weight slug : Nat → Int32} {wt sl : Nat → Nat} (h : NUM K S worn weight slug wt sl) {i : Nat} (hi : i < K) : ∀ (d j f r : Nat), j + d = K → d < f → r ≤ 60000 → ∃ r' : Nat, fX7_rankOfBestSpan_L42 N f (enc r) (nI i) (nI j) (nI K) (nI S) slug worn weight = some (enc r') ∧ r' ≤ 60000 ∧ r ≤ r' ∧ (∀ j', j ≤ j' → j' < K → rkN wt sl K S (wt i) (wt j') ≤ r') ∧ (r' = r ∨ ∃ a b : Nat, 1 ≤ a ∧ a ≤ b ∧ b ≤ 99 ∧ r' = rkN wt sl K S a b) := by
  have hK := h.1
  have hw := h.2.2.1
  intro d
  induction d with
  | zero =>
    intro j f r hj hf hr
    obtain ⟨f, rfl⟩ : ∃ g, f = g + 1 := ⟨f - 1, by omega⟩
    refine ⟨r, ?_, hr, Nat.le_refl _, fun a' z1 z2 => by omega, .inl rfl⟩
    rw [fX7_rankOfBestSpan_L42_s, if_pos (nI_le (by omega) (by omega))]
  | succ d ih =>
    intro j f r hj hf hr
    obtain ⟨f, rfl⟩ : ∃ g, f = g + 1 := ⟨f - 1, by omega⟩
    have hk := rk_le wt sl K S (wt i) (wt j) h.1
    obtain ⟨r', e1, e2, e3, e4, e5⟩ := ih (j + 1) f (max r (rkN wt sl K S (wt i) (wt j))) (by omega) (by omega) (by omega)
    refine ⟨r', ?_, e2, by omega, fun a' z1 z2 => ?_, mx_att (hw i hi).2.1 (hw i hi).2.2 (hw j (by omega)).2.2 rfl e5⟩
    · rw [fX7_rankOfBestSpan_L42_s, if_neg (nI_ge (by omega) (by omega)), w_now N worn weight (show i < 5 by omega), bd_s, w_now N worn weight (show j < 5 by omega), bd_s, (hw i hi).1, (hw j (by omega)).1, p_rank N (by omega) h (hw i hi).2.1 (hw i hi).2.2 (hw j (by omega)).2.2, bd_s, enc_max hr hk, lt_e, lt_e, nI_1]
      exact e1
    · by_cases q : a' = j
      · rw [q]; omega
      · exact e4 a' (by omega) z2
theorem x_L29 (N : Nat) (hN : 200 ≤ N) {K S : Nat} {worn : Int32} {weight slug : Nat → Int32} {wt sl : Nat → Nat} (h : NUM K S worn weight slug wt sl) : ∀ (d i f r : Nat), i + d = K → d < f → r ≤ 60000 → ∃ r' : Nat, fX7_rankOfBestSpan_L29 N f (enc r) (nI i) (nI K) (nI S) slug worn weight = some (enc r') ∧ r' ≤ 60000 ∧ r ≤ r' ∧ (∀ i' j', i ≤ i' → i' < K → j' < K → rkN wt sl K S (wt i') (wt j') ≤ r') ∧ (r' = r ∨ ∃ a b : Nat, 1 ≤ a ∧ a ≤ b ∧ b ≤ 99 ∧ r' = rkN wt sl K S a b) := by
  have hK := h.1
  intro d
  induction d with
  | zero =>
    intro i f r hi hf hr
    obtain ⟨f, rfl⟩ : ∃ g, f = g + 1 := ⟨f - 1, by omega⟩
    refine ⟨r, ?_, hr, Nat.le_refl _, fun a' b' z1 z2 => by omega, .inl rfl⟩
    rw [fX7_rankOfBestSpan_L29_s, if_pos (nI_le (by omega) (by omega))]
  | succ d ih =>
    intro i f r hi hf hr
    obtain ⟨f, rfl⟩ : ∃ g, f = g + 1 := ⟨f - 1, by omega⟩
    obtain ⟨r1, g1, g2, g3, g4, g5⟩ := x_L42 N hN h (i := i) (by omega) K 0 N r (by omega) (by omega) hr
    obtain ⟨r', e1, e2, e3, e4, e5⟩ := ih (i + 1) f r1 (by omega) (by omega) g2
    refine ⟨r', ?_, e2, by omega, fun i' j' z1 z2 z3 => ?_, ?_⟩
    · rw [fX7_rankOfBestSpan_L29_s, if_neg (nI_ge (by omega) (by omega)), show fX7_rankOfBestSpan_L42 N N (enc r) (nI i) 0 (nI K) (nI S) slug worn weight = _ from g1, bd_s, lt_e, nI_1]
      exact e1
    · by_cases q : i' = i
      · rw [q]; exact Nat.le_trans (g4 j' (by omega) z3) e3
      · exact e4 i' j' (by omega) z2 z3
    · rcases e5 with e5 | e5
      · rcases g5 with g5 | g5
        · left; omega
        · right; rw [e5]; exact g5
      · exact .inr e5
theorem x_best (N : Nat) (hN : 200 ≤ N) {K S : Nat} {worn : Int32} {weight slug : Nat → Int32} {wt sl : Nat → Nat} (h : NUM K S worn weight slug wt sl) : ∃ r : Nat, fX7_rankOfBestSpan N (nI K) (nI S) slug worn weight = some (enc r) ∧ r ≤ 60000 ∧ (∀ a, 1 ≤ a → a ≤ 99 → rkN wt sl K S a a ≤ r) ∧ (∀ i j, i < K → j < K → rkN wt sl K S (wt i) (wt j) ≤ r) ∧ (r = 0 ∨ ∃ a b : Nat, 1 ≤ a ∧ a ≤ b ∧ b ≤ 99 ∧ r = rkN wt sl K S a b) := by
  have hK := h.1
  obtain ⟨r1, g1, g2, g3, g4, g5⟩ := x_L4 N hN h 99 1 N 0 (by omega) (by omega) (by omega) (by omega)
  obtain ⟨r2, e1, e2, e3, e4, e5⟩ := x_L29 N hN h K 0 N r1 (by omega) (by omega) g2
  refine ⟨r2, ?_, e2, fun a z1 z2 => Nat.le_trans (g4 a z1 z2) e3, fun i j z1 z2 => e4 i j (by omega) z1 z2, ?_⟩
  · unfold fX7_rankOfBestSpan
    rw [show fX7_rankOfBestSpan_L4 N N (-1) 1 (nI K) (nI S) slug worn weight = _ from g1, bd_s, show fX7_rankOfBestSpan_L29 N N (enc r1) 0 (nI K) (nI S) slug worn weight = _ from e1, bd_s]
  · rcases e5 with e5 | e5
    · rw [e5]; exact g5
    · exact .inr e5
/-- each span lies below one that the class tries -/
theorem dom {K S : Nat} {worn : Int32} {weight slug : Nat → Int32} {wt sl : Nat → Nat} (h : NUM K S worn weight slug wt sl) {r : Nat} (h1 : ∀ a, 1 ≤ a → a ≤ 99 → rkN wt sl K S a a ≤ r) (h2 : ∀ i j, i < K → j < K → rkN wt sl K S (wt i) (wt j) ≤ r) {a b : Nat} (ha : 1 ≤ a) (hab : a ≤ b) (hb : b ≤ 99) : rkN wt sl K S a b ≤ r := by
  have hw := h.2.2.1
  by_cases q : b < a ∨ cN (inN sl a b) S ≠ 0
  · unfold rkN; rw [if_pos q]; omega
  have q2 : cN (inN sl a b) S = 0 := by
    by_cases z : cN (inN sl a b) S = 0
    · exact z
    · exact absurd (.inr z) q
  have hr : rkN wt sl K S a b = 10000 * cN (inN wt a b) K + 100 * (99 - (b - a)) + (99 - a) := by unfold rkN; rw [if_neg q]
  have free : ∀ a' b', a ≤ a' → a' ≤ b' → b' ≤ b → rkN wt sl K S a' b' = 10000 * cN (inN wt a' b') K + 100 * (99 - (b' - a')) + (99 - a') := by
    intro a' b' z1 z2 z3
    have z4 : cN (inN sl a' b') S = 0 := by
      rw [cN_zero]
      intro i hi z
      refine (cN_zero _ S).mp q2 i hi ?_
      rw [inN_t] at z ⊢
      omega
    unfold rkN
    rw [if_neg (fun z => by rcases z with z | z; omega; exact z z4)]
  by_cases c0 : cN (inN wt a b) K = 0
  · have h3 := h1 a ha (by omega)
    rw [free a a (Nat.le_refl _) (Nat.le_refl _) hab] at h3
    rw [hr, c0]
    omega
  · have ex : ∃ k, k < K ∧ inN wt a b k = true := by
      refine Classical.byContradiction (fun z => c0 ((cN_zero _ K).mpr (fun i hi hp => z ⟨i, hi, hp⟩)))
    obtain ⟨i, hi, hpi, hmi⟩ := ex_min wt (inN wt a b) K ex
    obtain ⟨j, hj, hpj, hmj⟩ := ex_max wt (inN wt a b) K (fun k hk => (hw k hk).2.2) ex
    have hij := hmi j hj hpj
    rw [inN_t] at hpi hpj
    have h3 := h2 i j hi hj
    rw [free (wt i) (wt j) hpi.1 hij hpj.2, cN_cong (q := inN wt a b) K (fun k hk => by
      by_cases z : inN wt a b k = true
      · rw [z, inN_t]; exact ⟨hmi k hk z, hmj k hk z⟩
      · have z2 : ¬ inN wt (wt i) (wt j) k = true := by
          rw [inN_t] at z ⊢
          omega
        rw [Bool.not_eq_true] at z z2
        rw [z, z2])] at h3
    rw [hr]
    omega
theorem m_L61 (N : Nat) (hN : 200 ≤ N) {K C : Nat} {rlen cu cg mu mg tube goods stick kicks kcnt low high price wired : Nat → Int32} {lost stamps sales damp worn seed : Int32} {w : Nat → Int32} (h0 : RSt K C rlen cu cg mu mg tube goods stick kicks kcnt low high price wired lost stamps sales damp worn seed w 0) {S : Nat} {weight mweight slug mslug : Nat → Int32} (hwe : ∀ k, k < K → mweight k = weight k) (hsl : ∀ i, i < S → mslug i = slug i) {wt sl : Nat → Nat} (h : NUM K S worn weight slug wt sl) (x1 x2 x3 x4 x8 : Int32) {off a : Nat} (ha : a + off ≤ 99) : ∀ (d i f : Nat), i + d = K → d < f → fX8_best_L61 N f x1 x2 x3 x4 (nI off) (nI a) (nI (cN (inN wt a (a + off)) i)) x8 (nI i) (nI K) mweight w = some (nI (cN (inN wt a (a + off)) K)) := by
  have hK := h.1
  have hw := h.2.2.1
  intro d
  induction d with
  | zero =>
    intro i f hi hf
    obtain ⟨f, rfl⟩ : ∃ g, f = g + 1 := ⟨f - 1, by omega⟩
    rw [fX8_best_L61_s, if_pos (nI_le (by omega) (by omega)), show i = K by omega]
  | succ d ih =>
    intro i f hi hf
    obtain ⟨f, rfl⟩ : ∃ g, f = g + 1 := ⟨f - 1, by omega⟩
    obtain ⟨e1, e2, e3⟩ := hw i (by omega)
    have e4 : fX8_weightIn N mweight w 0 (nI i) = some (weight i - worn) := (p_weight N h0 (by decide) hwe hK (by omega)).2
    rw [fX8_best_L61_s, if_neg (nI_ge (by omega) (by omega)), e4, bd_s, p_in, bd_s, wide, wide, wide, e1, nI_add, nIt a (by omega), nIt _ (by omega), nIt (a + off) (by omega)]
    have hs := cN_s (inN wt a (a + off)) i
    by_cases q : a ≤ wt i ∧ wt i ≤ a + off
    · rw [if_pos (inN_t.mpr q)] at hs
      rw [if_pos (show ((a : Int) ≤ (wt i : Int) ∧ (wt i : Int) ≤ ((a + off : Nat) : Int)) by omega), one_1, bd_s, lt_e, lt_e, nI_1, nI_1, ← hs]
      exact ih (i + 1) f (by omega) (by omega)
    · replace hs : cN (inN wt a (a + off)) (i + 1) = cN (inN wt a (a + off)) i := by rw [hs, if_neg (fun z => q (inN_t.mp z))]; rfl
      rw [if_neg (show ¬ ((a : Int) ≤ (wt i : Int) ∧ (wt i : Int) ≤ ((a + off : Nat) : Int)) by omega), one_0, bd_s, lt_e, lt_e, nI_1, Int32.add_zero, ← hs]
      exact ih (i + 1) f (by omega) (by omega)
theorem m_L107 (N : Nat) {S : Nat} (hS : S ≤ 5) {mslug : Nat → Int32} {sl : Nat → Nat} (hs : ∀ i, i < S → mslug i = nI (sl i) ∧ 1 ≤ sl i ∧ sl i ≤ 99) (x1 x2 x3 x4 x7 : Int32) {off a : Nat} (ha : a + off ≤ 99) : ∀ (d i f : Nat), i + d = S → d < f → fX8_best_L107 N f x1 x2 x3 x4 (nI off) (nI a) x7 (if cN (inN sl a (a + off)) i = 0 then 0 else 1) (nI i) (nI S) mslug = some (if cN (inN sl a (a + off)) S = 0 then 0 else 1) := by
  intro d
  induction d with
  | zero =>
    intro i f hi hf
    obtain ⟨f, rfl⟩ : ∃ g, f = g + 1 := ⟨f - 1, by omega⟩
    rw [fX8_best_L107_s, if_pos (nI_le (by omega) (by omega)), show i = S by omega]
  | succ d ih =>
    intro i f hi hf
    obtain ⟨f, rfl⟩ : ∃ g, f = g + 1 := ⟨f - 1, by omega⟩
    obtain ⟨e1, e2, e3⟩ := hs i (by omega)
    have ih := ih (i + 1) f (by omega) (by omega)
    have hs := cN_s (inN sl a (a + off)) i
    rw [fX8_best_L107_s, if_neg (nI_ge (by omega) (by omega))]
    by_cases c0 : cN (inN sl a (a + off)) i = 0
    · rw [if_pos c0, if_pos (show (0 : Int32) = 0 from rfl), ck_nI (by omega) (by decide), nI_clamp (by omega), e1, p_in, bd_s, wide, wide, wide, nI_add, nIt a (by omega), nIt _ (by omega), nIt (a + off) (by omega)]
      by_cases q : a ≤ sl i ∧ sl i ≤ a + off
      · rw [if_pos (inN_t.mpr q)] at hs
        rw [if_neg (show ¬ cN (inN sl a (a + off)) (i + 1) = 0 by omega)] at ih
        rw [if_pos (show ((a : Int) ≤ (sl i : Int) ∧ (sl i : Int) ≤ ((a + off : Nat) : Int)) by omega), if_neg (show ¬ (1 : Int32) = 0 by decide), lt_e, nI_1]
        exact ih
      · replace hs : cN (inN sl a (a + off)) (i + 1) = cN (inN sl a (a + off)) i := by rw [hs, if_neg (fun z => q (inN_t.mp z))]; rfl
        rw [if_pos (show cN (inN sl a (a + off)) (i + 1) = 0 by omega)] at ih
        rw [if_neg (show ¬ ((a : Int) ≤ (sl i : Int) ∧ (sl i : Int) ≤ ((a + off : Nat) : Int)) by omega), if_pos (show (0 : Int32) = 0 from rfl), lt_e, nI_1]
        exact ih
    · rw [if_neg (show ¬ cN (inN sl a (a + off)) (i + 1) = 0 by omega)] at ih
      rw [if_neg c0, if_neg (show ¬ (1 : Int32) = 0 by decide), lt_e, nI_1]
      exact ih
theorem m_L42 (N : Nat) (hN : 200 ≤ N) {K C : Nat} {rlen cu cg mu mg tube goods stick kicks kcnt low high price wired : Nat → Int32} {lost stamps sales damp worn seed : Int32} {w : Nat → Int32} (h0 : RSt K C rlen cu cg mu mg tube goods stick kicks kcnt low high price wired lost stamps sales damp worn seed w 0) {S : Nat} {weight mweight slug mslug : Nat → Int32} (hwe : ∀ k, k < K → mweight k = weight k) (hsl : ∀ i, i < S → mslug i = slug i) {wt sl : Nat → Nat} (h : NUM K S worn weight slug wt sl) (x1 : Int32) {off : Nat} (hoff : off ≤ 98) : ∀ (d a f r : Nat) (x2 x3 x4 : Int32), a + off + d = 100 → 1 ≤ a → d < f → ((x2 = -1 ∧ x3 = -1 ∧ x4 = -1 ∧ r = 0) ∨ ∃ a0 b0 n0 : Nat, x2 = nI a0 ∧ x3 = nI b0 ∧ x4 = nI n0 ∧ 1 ≤ a0 ∧ a0 ≤ b0 ∧ b0 ≤ 99 ∧ n0 ≤ 5 ∧ r = 10000 * n0 + 100 * (99 - (b0 - a0)) + (99 - a0) ∧ (b0 - a0 < off ∨ (b0 - a0 = off ∧ a0 < a))) → ∃ (r' : Nat) (y2 y3 y4 : Int32), fX8_best_L42 N f x1 x2 x3 x4 (nI off) (nI a) (nI K) (nI S) mweight w mslug = some (y2, y3, y4) ∧ r ≤ r' ∧ (∀ a', a ≤ a' → a' + off ≤ 99 → rkN wt sl K S a' (a' + off) ≤ r') ∧ (r' = r ∨ ∃ a b : Nat, 1 ≤ a ∧ a ≤ b ∧ b ≤ 99 ∧ r' = rkN wt sl K S a b) ∧ ((y2 = -1 ∧ y3 = -1 ∧ y4 = -1 ∧ r' = 0) ∨ ∃ a0 b0 n0 : Nat, y2 = nI a0 ∧ y3 = nI b0 ∧ y4 = nI n0 ∧ 1 ≤ a0 ∧ a0 ≤ b0 ∧ b0 ≤ 99 ∧ n0 ≤ 5 ∧ r' = 10000 * n0 + 100 * (99 - (b0 - a0)) + (99 - a0) ∧ (b0 - a0 < (off + 1) ∨ (b0 - a0 = (off + 1) ∧ a0 < 1))) := by
  have hK := h.1
  have hS := h.2.1
  intro d
  induction d with
  | zero =>
    intro a f r x2 x3 x4 ha h1 hf hst
    obtain ⟨f, rfl⟩ : ∃ g, f = g + 1 := ⟨f - 1, by omega⟩
    refine ⟨r, x2, x3, x4, ?_, Nat.le_refl _, fun a' z1 z2 => by omega, .inl rfl, ?_⟩
    · rw [fX8_best_L42_s, nI_add, if_pos (show (99 : Int32) < nI (a + off) from (s_lt (a := 99) (by decide) (by omega)).mpr (by omega))]
    · rcases hst with hst | ⟨a0, b0, n0, z1, z2, z3, z4, z5, z6, z7, z8, z9⟩
      · exact .inl hst
      · exact .inr ⟨a0, b0, n0, z1, z2, z3, z4, z5, z6, z7, z8, by omega⟩
  | succ d ih =>
    intro a f r x2 x3 x4 ha h1 hf hst
    obtain ⟨f, rfl⟩ : ∃ g, f = g + 1 := ⟨f - 1, by omega⟩
    have e1 := m_L61 N hN h0 hwe hsl h x1 x2 x3 x4 0 (off := off) (a := a) (by omega) K 0 N (by omega) (by omega)
    have e2 := m_L107 N hS (mslug := mslug) (fun i hi => by rw [hsl i hi]; exact h.2.2.2 i hi) x1 x2 x3 x4 (nI (cN (inN wt a (a + off)) K)) (off := off) (a := a) (by omega) S 0 N (by omega) (by omega)
    have hc := cN_le (inN wt a (a + off)) K
    rw [fX8_best_L42_s, nI_add, if_neg (show ¬ (99 : Int32) < nI (a + off) from fun z => by have := (s_lt (a := 99) (by decide) (by omega)).mp z; omega), show fX8_best_L61 N N x1 x2 x3 x4 (nI off) (nI a) 0 0 0 (nI K) mweight w = _ from e1, bd_s, show fX8_best_L107 N N x1 x2 x3 x4 (nI off) (nI a) (nI (cN (inN wt a (a + off)) K)) 0 0 (nI S) mslug = _ from e2, bd_s]
    by_cases q : cN (inN sl a (a + off)) S = 0
    · have hr : rkN wt sl K S a (a + off) = 10000 * cN (inN wt a (a + off)) K + 100 * (99 - off) + (99 - a) := by
        unfold rkN
        rw [if_neg (fun z => by rcases z with z | z; omega; exact z q), show a + off - a = off by omega]
      rw [if_pos q, if_pos (show (0 : Int32) = 0 from rfl)]
      by_cases q2 : nI (cN (inN wt a (a + off)) K) ≤ x4
      · -- kept
        rw [if_pos q2, lt_e, nI_1]
        have hst' : ((x2 = -1 ∧ x3 = -1 ∧ x4 = -1 ∧ r = 0) ∨ ∃ a0 b0 n0 : Nat, x2 = nI a0 ∧ x3 = nI b0 ∧ x4 = nI n0 ∧ 1 ≤ a0 ∧ a0 ≤ b0 ∧ b0 ≤ 99 ∧ n0 ≤ 5 ∧ r = 10000 * n0 + 100 * (99 - (b0 - a0)) + (99 - a0) ∧ (b0 - a0 < off ∨ (b0 - a0 = off ∧ a0 < (a + 1)))) ∧ rkN wt sl K S a (a + off) ≤ r := by
          rcases hst with ⟨z1, z2, z3, z4⟩ | ⟨a0, b0, n0, z1, z2, z3, z4, z5, z6, z7, z8, z9⟩
          · rw [z3, le32, nIt _ (by omega)] at q2
            exact absurd q2 (by show ¬ ((cN (inN wt a (a + off)) K : Nat) : Int) ≤ -1; omega)
          · have q3 : cN (inN wt a (a + off)) K ≤ n0 := by
              rw [z3] at q2
              exact (s_le (by omega) (by omega)).mp q2
            exact ⟨.inr ⟨a0, b0, n0, z1, z2, z3, z4, z5, z6, z7, z8, by omega⟩, by rw [hr, z8]; omega⟩
        obtain ⟨r', y2, y3, y4, k1, k2, k3, k4, k5⟩ := ih (a + 1) f r x2 x3 x4 (by omega) (by omega) (by omega) hst'.1
        refine ⟨r', y2, y3, y4, k1, k2, fun a' z1 z2 => ?_, k4, k5⟩
        by_cases e : a' = a
        · rw [e]; exact Nat.le_trans hst'.2 k2
        · exact k3 a' (by omega) z2
      · rw [if_neg q2, lt_e, lt_e, nI_1]
        have hgt : r ≤ rkN wt sl K S a (a + off) := by
          rcases hst with ⟨z1, z2, z3, z4⟩ | ⟨a0, b0, n0, z1, z2, z3, z4, z5, z6, z7, z8, z9⟩
          · omega
          · have q3 : ¬ cN (inN wt a (a + off)) K ≤ n0 := fun z => q2 (by rw [z3]; exact (s_le (by omega) (by omega)).mpr z)
            rw [hr, z8]; omega
        obtain ⟨r', y2, y3, y4, k1, k2, k3, k4, k5⟩ := ih (a + 1) f (rkN wt sl K S a (a + off)) (nI a) (nI (a + off)) (nI (cN (inN wt a (a + off)) K)) (by omega) (by omega) (by omega) (.inr ⟨a, a + off, cN (inN wt a (a + off)) K, rfl, rfl, rfl, h1, by omega, by omega, by omega, by rw [hr, show a + off - a = off by omega], .inr ⟨by omega, by omega⟩⟩)
        refine ⟨r', y2, y3, y4, k1, by omega, fun a' z1 z2 => ?_, ?_, k5⟩
        · by_cases e : a' = a
          · rw [e]; exact k2
          · exact k3 a' (by omega) z2
        · rcases k4 with k4 | k4
          · exact .inr ⟨a, a + off, h1, by omega, by omega, k4⟩
          · exact .inr k4
    · have hr : rkN wt sl K S a (a + off) = 0 := by
        unfold rkN
        rw [if_pos (.inr q)]
      rw [if_neg q, if_neg (show ¬ (1 : Int32) = 0 by decide), lt_e, nI_1]
      have hst' : ((x2 = -1 ∧ x3 = -1 ∧ x4 = -1 ∧ r = 0) ∨ ∃ a0 b0 n0 : Nat, x2 = nI a0 ∧ x3 = nI b0 ∧ x4 = nI n0 ∧ 1 ≤ a0 ∧ a0 ≤ b0 ∧ b0 ≤ 99 ∧ n0 ≤ 5 ∧ r = 10000 * n0 + 100 * (99 - (b0 - a0)) + (99 - a0) ∧ (b0 - a0 < off ∨ (b0 - a0 = off ∧ a0 < (a + 1)))) := by
        rcases hst with hst | ⟨a0, b0, n0, z1, z2, z3, z4, z5, z6, z7, z8, z9⟩
        · exact .inl hst
        · exact .inr ⟨a0, b0, n0, z1, z2, z3, z4, z5, z6, z7, z8, by omega⟩
      obtain ⟨r', y2, y3, y4, k1, k2, k3, k4, k5⟩ := ih (a + 1) f r x2 x3 x4 (by omega) (by omega) (by omega) hst'
      refine ⟨r', y2, y3, y4, k1, k2, fun a' z1 z2 => ?_, k4, k5⟩
      by_cases e : a' = a
      · rw [e, hr]; omega
      · exact k3 a' (by omega) z2
theorem m_L25 (N : Nat) (hN : 200 ≤ N) {K C : Nat} {rlen cu cg mu mg tube goods stick kicks kcnt low high price wired : Nat → Int32} {lost stamps sales damp worn seed : Int32} {w : Nat → Int32} (h0 : RSt K C rlen cu cg mu mg tube goods stick kicks kcnt low high price wired lost stamps sales damp worn seed w 0) {S : Nat} {weight mweight slug mslug : Nat → Int32} (hwe : ∀ k, k < K → mweight k = weight k) (hsl : ∀ i, i < S → mslug i = slug i) {wt sl : Nat → Nat} (h : NUM K S worn weight slug wt sl) (hK1 : 1 ≤ K) (x1 : Int32) : ∀ (d off f r : Nat) (x2 x3 x4 : Int32), off + d = 99 → d < f → ((x2 = -1 ∧ x3 = -1 ∧ x4 = -1 ∧ r = 0) ∨ ∃ a0 b0 n0 : Nat, x2 = nI a0 ∧ x3 = nI b0 ∧ x4 = nI n0 ∧ 1 ≤ a0 ∧ a0 ≤ b0 ∧ b0 ≤ 99 ∧ n0 ≤ 5 ∧ r = 10000 * n0 + 100 * (99 - (b0 - a0)) + (99 - a0) ∧ (b0 - a0 < off ∨ (b0 - a0 = off ∧ a0 < 1))) → ∃ (r' : Nat) (y2 y3 y4 : Int32), fX8_best_L25 N f x1 x2 x3 x4 (nI off) (nI K) (nI S) mweight w mslug = some (y2, y3, y4) ∧ r ≤ r' ∧ (∀ o a', off ≤ o → 1 ≤ a' → a' + o ≤ 99 → rkN wt sl K S a' (a' + o) ≤ r') ∧ (r' = r ∨ ∃ a b : Nat, 1 ≤ a ∧ a ≤ b ∧ b ≤ 99 ∧ r' = rkN wt sl K S a b) ∧ ((y2 = -1 ∧ y3 = -1 ∧ y4 = -1 ∧ r' = 0) ∨ ∃ a0 b0 n0 : Nat, y2 = nI a0 ∧ y3 = nI b0 ∧ y4 = nI n0 ∧ 1 ≤ a0 ∧ a0 ≤ b0 ∧ b0 ≤ 99 ∧ n0 ≤ 5 ∧ r' = 10000 * n0 + 100 * (99 - (b0 - a0)) + (99 - a0) ∧ (b0 - a0 < 100 ∨ (b0 - a0 = 100 ∧ a0 < 1))) := by
  have hK := h.1
  intro d
  induction d with
  | zero =>
    intro off f r x2 x3 x4 ho hf hst
    obtain ⟨f, rfl⟩ : ∃ g, f = g + 1 := ⟨f - 1, by omega⟩
    refine ⟨r, x2, x3, x4, ?_, Nat.le_refl _, fun o a' z1 z2 z3 => by omega, .inl rfl, ?_⟩
    · rw [fX8_best_L25_s, if_pos (show (99 : Int32) ≤ nI off from (s_le (a := 99) (by decide) (by omega)).mpr (by omega))]
    · rcases hst with hst | ⟨a0, b0, n0, z1, z2, z3, z4, z5, z6, z7, z8, z9⟩
      · exact .inl hst
      · exact .inr ⟨a0, b0, n0, z1, z2, z3, z4, z5, z6, z7, z8, by omega⟩
  | succ d ih =>
    intro off f r x2 x3 x4 ho hf hst
    obtain ⟨f, rfl⟩ : ∃ g, f = g + 1 := ⟨f - 1, by omega⟩
    obtain ⟨r1, y2, y3, y4, k1, k2, k3, k4, k5⟩ := m_L42 N hN h0 hwe hsl h x1 (off := off) (by omega) (99 - off) 1 N r x2 x3 x4 (by omega) (by omega) (by omega) hst
    obtain ⟨r', v2, v3, v4, j1, j2, j3, j4, j5⟩ := ih (off + 1) f r1 y2 y3 y4 (by omega) (by omega) k5
    refine ⟨r', v2, v3, v4, ?_, by omega, fun o a' z1 z2 z3 => ?_, ?_, j5⟩
    · rw [fX8_best_L25_s, if_neg (show ¬ (99 : Int32) ≤ nI off from fun z => by have := (s_le (a := 99) (by decide) (by omega)).mp z; omega), if_neg (nI_nle (by omega) (by omega)), show fX8_best_L42 N N x1 x2 x3 x4 (nI off) 1 (nI K) (nI S) mweight w mslug = _ from k1, bd_s]
      dsimp only
      rw [lt_e, nI_1]
      exact j1
    · by_cases e : o = off
      · rw [e] at z3 ⊢
        exact Nat.le_trans (k3 a' z2 z3) j2
      · exact j3 o a' (by omega) z2 z3
    · rcases j4 with j4 | j4
      · rcases k4 with k4 | k4
        · left; omega
        · right; rw [j4]; exact k4
      · exact .inr j4
