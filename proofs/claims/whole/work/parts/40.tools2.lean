/-! plain numbers: sums, products, quotients of small ones -/
theorem s_sub {a b : Nat} (h : b ≤ a) : nI a - nI b = nI (a - b) := by
  obtain ⟨c, rfl⟩ : ∃ c, a = c + b := ⟨a - b, by omega⟩
  rw [← nI_add, Int32.add_sub_cancel, Nat.add_sub_cancel]
theorem s_sub1 {a : Nat} (h : 1 ≤ a) : nI a - 1 = nI (a - 1) := s_sub (b := 1) h
theorem s_mul (a b : Nat) : nI a * nI b = nI (a * b) := (Int32.ofNat_mul a b).symm
theorem s_lt {a b : Nat} (ha : a < 2 ^ 31) (hb : b < 2 ^ 31) : nI a < nI b ↔ a < b := by
  rw [lt32, nIt a ha, nIt b hb]; omega
theorem s_le {a b : Nat} (ha : a < 2 ^ 31) (hb : b < 2 ^ 31) : nI a ≤ nI b ↔ a ≤ b := by
  rw [le32, nIt a ha, nIt b hb]; omega
theorem s_bmod {x : Int} (h1 : -2147483648 ≤ x) (h2 : x < 2147483648) : x.bmod (2 ^ 32) = x := by
  apply Int.bmod_eq_of_le <;> omega
theorem t_add {a b : Int32} (h1 : -2147483648 ≤ a.toInt + b.toInt) (h2 : a.toInt + b.toInt < 2147483648) : (a + b).toInt = a.toInt + b.toInt := by
  rw [Int32.toInt_add, s_bmod h1 h2]
theorem t_sub {a b : Int32} (h1 : -2147483648 ≤ a.toInt - b.toInt) (h2 : a.toInt - b.toInt < 2147483648) : (a - b).toInt = a.toInt - b.toInt := by
  rw [Int32.toInt_sub, s_bmod h1 h2]
theorem t_mul {a b : Int32} (h1 : -2147483648 ≤ a.toInt * b.toInt) (h2 : a.toInt * b.toInt < 2147483648) : (a * b).toInt = a.toInt * b.toInt := by
  rw [Int32.toInt_mul, s_bmod h1 h2]
theorem s_div {a b : Nat} (ha : a < 2 ^ 31) (hb : b < 2 ^ 31) : nI a / nI b = nI (a / b) := by
  have hle : a / b ≤ a := Nat.div_le_self a b
  rw [eq32, Int32.toInt_div, nIt a ha, nIt b hb, nIt _ (by omega), ← Int.ofNat_tdiv, s_bmod (Int.le_trans (by decide) (Int.natCast_nonneg _)) (Int.ofNat_lt.mpr (by omega : a / b < 2147483648))]
theorem nz_nI {α : Type} {j : Nat} (h1 : 1 ≤ j) (h : j < 2 ^ 31) (a : Option α) : nz (nI j) a = a := by
  unfold nz
  rw [if_neg (fun e => by have := (nI_eq h (by decide : 0 < 2 ^ 31)).mp e; omega)]
theorem i0 : (0 : Int32) = nI 0 := rfl
theorem ck_i {α : Type} {i : Int32} {n : Nat} (h0 : 0 ≤ i.toInt) (h1 : i.toInt < n) (hn : n < 2 ^ 31) (a : Option α) : ck i n a = a := by
  have e : i = nI i.toInt.toNat := by rw [eq32, nIt _ (by omega)]; omega
  exact ck_at e (by omega) hn a
theorem nI_toN {i : Int32} (h0 : 0 ≤ i.toInt) : i = nI i.toInt.toNat := by
  have := (rng32 i).2
  rw [eq32, nIt _ (by omega)]; omega
/-- bits of small sets -/
theorem b_has (N : Nat) : ∀ T : Nat, T < 256 → ∀ k : Nat, k < 8 → fX8_has N (nI T) (nI k) = some (if T.testBit k then 1 else 0) := by
  intro T hT k hk
  unfold fX8_has
  have h : ∀ T : Fin 256, ∀ k : Fin 8, (((nI T.val >>> (nI k.val &&& 31)) &&& 1) = 1) = (T.val.testBit k.val = true) := by decide +kernel
  have h2 := h ⟨T, hT⟩ ⟨k, hk⟩
  simp only [] at h2
  by_cases q : T.testBit k = true
  · rw [if_pos (h2.mpr q), if_pos q]
  · rw [if_neg (fun z => q (h2.mp z)), if_neg q]
theorem b_or : ∀ T : Nat, T < 256 → ∀ k : Nat, k < 8 → (nI T ||| (1 <<< (nI k &&& 31))) = nI (T ||| 2 ^ k) := by
  intro T hT k hk
  have h : ∀ T : Fin 256, ∀ k : Fin 8, (nI T.val ||| (1 <<< (nI k.val &&& 31))) = nI (T.val ||| 2 ^ k.val) := by decide +kernel
  exact h ⟨T, hT⟩ ⟨k, hk⟩
theorem b_lt : ∀ T : Nat, T < 256 → ∀ k : Nat, k < 8 → (T ||| 2 ^ k) < 256 := by
  intro T hT k hk
  exact Nat.or_lt_two_pow (n := 8) hT (Nat.pow_lt_pow_right (by decide) hk)
theorem b_test (T k j : Nat) : (T ||| 2 ^ k).testBit j = (T.testBit j || decide (k = j)) := by
  rw [Nat.testBit_or, Nat.testBit_two_pow]
