/-! paying from tubes that are capped at 60 -/
theorem Sv_cong {f g : Nat → Nat} : ∀ d i, (∀ j, i ≤ j → j < i + d → f j = g j) → sumG f d i = sumG g d i := by
  intro d
  induction d with
  | zero => intro i _; rfl
  | succ d ih =>
    intro i h
    show f i + sumG f d (i + 1) = g i + sumG g d (i + 1)
    rw [h i (Nat.le_refl _) (by omega), ih (i + 1) (fun j h1 h2 => h j (by omega) (by omega))]
theorem Sv_le {f g : Nat → Nat} : ∀ d i, (∀ j, i ≤ j → j < i + d → f j ≤ g j) → sumG f d i ≤ sumG g d i := by
  intro d
  induction d with
  | zero => intro i _; exact Nat.le_refl _
  | succ d ih =>
    intro i h
    show f i + sumG f d (i + 1) ≤ g i + sumG g d (i + 1)
    have h1 := h i (Nat.le_refl _) (by omega)
    have h2 := ih (i + 1) (fun j h1 h2 => h j (by omega) (by omega))
    omega
theorem Sv_mul (f : Nat → Nat) (B : Nat) : ∀ d i, sumG (fun j => f j * B) d i = sumG f d i * B := by
  intro d
  induction d with
  | zero => intro i; show 0 = 0 * B; rw [Nat.zero_mul]
  | succ d ih =>
    intro i
    show f i * B + sumG (fun j => f j * B) d (i + 1) = (f i + sumG f d (i + 1)) * B
    rw [ih (i + 1), Nat.add_mul]
/-- one place made 0 -/
theorem Sv_zero (g : Nat → Nat) (m : Nat) : ∀ d i, i ≤ m → m < i + d → sumG (fun j => if j = m then 0 else g j) d i + g m = sumG g d i := by
  intro d
  induction d with
  | zero => intro i h1 h2; omega
  | succ d ih =>
    intro i h1 h2
    show (if i = m then 0 else g i) + sumG (fun j => if j = m then 0 else g j) d (i + 1) + g m = g i + sumG g d (i + 1)
    by_cases q : i = m
    · rw [if_pos q, Sv_cong (g := g) d (i + 1) (fun j h3 h4 => by rw [if_neg (by omega)]), q]
      omega
    · rw [if_neg q]
      have := ih (i + 1) (by omega) (by omega)
      omega
theorem Sv_inj (M : Nat) : ∀ (n : Nat) (τ g : Nat → Nat), (∀ k, k < n → τ k < M) → (∀ i j, i < j → j < n → τ i ≠ τ j) → sumG (fun k => g (τ k)) n 0 ≤ sumG g M 0 := by
  have tail : ∀ (f : Nat → Nat) d i, sumG f (d + 1) i = sumG f d i + f (i + d) := by
    intro f d
    induction d with
    | zero => intro i; show f i + 0 = 0 + f i; omega
    | succ d ih =>
      intro i
      show f i + sumG f (d + 1) (i + 1) = (f i + sumG f d (i + 1)) + f (i + (d + 1))
      rw [ih (i + 1), show i + 1 + d = i + (d + 1) by omega]
      omega
  intro n
  induction n with
  | zero => intro τ g _ _; exact Nat.zero_le _
  | succ n ih =>
    intro τ g h1 h2
    rw [tail, Nat.zero_add]
    have h3 := ih τ (fun j => if j = τ n then 0 else g j) (fun k hk => h1 k (by omega)) (fun i j hi hj => h2 i j hi (by omega))
    have h4 := Sv_zero g (τ n) M 0 (Nat.zero_le _) (by have := h1 n (by omega); omega)
    rw [Sv_cong (f := fun k => if τ k = τ n then 0 else g (τ k)) (g := fun k => g (τ k)) n 0 (fun j _ hj => by
      show (if τ j = τ n then 0 else g (τ j)) = g (τ j)
      rw [if_neg (h2 j n (by omega) (by omega))])] at h3
    show sumG (fun k => g (τ k)) n 0 + g (τ n) ≤ sumG g M 0
    omega
/-- coins of value 1 -/
theorem pay_1 {σ v : Nat → Nat} {K : Nat} (hd : ∀ i j, i < j → j < K → σ i ≠ σ j) : ∀ (d i L : Nat) (T : Nat → Nat), i + d = K → (∀ j, i ≤ j → j < K → v (σ j) = 1) → (payL σ v d i L T).1 = L - sumG (fun j => T (σ j)) d i := by
  intro d
  induction d with
  | zero => intro i L T _ _; rfl
  | succ d ih =>
    intro i L T hi h1
    show (payL σ v d (i + 1) (L - min (T (σ i)) (L / v (σ i)) * v (σ i)) (fun q => if q = σ i then T (σ i) - min (T (σ i)) (L / v (σ i)) else T q)).1 = L - (T (σ i) + sumG (fun j => T (σ j)) d (i + 1))
    rw [ih (i + 1) _ _ (by omega) (fun j h2 h3 => h1 j (by omega) h3), h1 i (Nat.le_refl _) (by omega), Nat.div_one, Nat.mul_one, Sv_cong (g := fun j => T (σ j)) d (i + 1) (fun j h2 h3 => by
      show (if σ j = σ i then T (σ i) - min (T (σ i)) L else T (σ j)) = T (σ j)
      rw [if_neg (Ne.symm (hd i j (by omega) (by omega)))])]
    omega
theorem payL_cong {σ v : Nat → Nat} : ∀ (d i L : Nat) (T T2 : Nat → Nat), (∀ j, i ≤ j → j < i + d → T (σ j) = T2 (σ j)) → (payL σ v d i L T).1 = (payL σ v d i L T2).1 := by
  intro d
  induction d with
  | zero => intro i L T T2 _; rfl
  | succ d ih =>
    intro i L T T2 h
    show (payL σ v d (i + 1) (L - min (T (σ i)) (L / v (σ i)) * v (σ i)) (fun q => if q = σ i then T (σ i) - min (T (σ i)) (L / v (σ i)) else T q)).1 = (payL σ v d (i + 1) (L - min (T2 (σ i)) (L / v (σ i)) * v (σ i)) (fun q => if q = σ i then T2 (σ i) - min (T2 (σ i)) (L / v (σ i)) else T2 q)).1
    rw [h i (Nat.le_refl _) (by omega)]
    refine ih (i + 1) _ _ _ (fun j h1 h2 => ?_)
    show (if σ j = σ i then _ else T (σ j)) = (if σ j = σ i then _ else T2 (σ j))
    by_cases q : σ j = σ i
    · rw [if_pos q, if_pos q]
    · rw [if_neg q, if_neg q]; exact h j (by omega) (by omega)
theorem div_less {L v c : Nat} (hv : 1 ≤ v) (h : c * v < L) (hc : c ≤ L / v) : c ≤ (L - 1) / v := by
  rw [Nat.le_div_iff_mul_le (by omega)]
  omega
/-- the counts stay when one coin of value 1 less is due -/
theorem min_less {t L v : Nat} (hv : 1 ≤ v) (h : 1 ≤ L - min t (L / v) * v) : min t ((L - 1) / v) = min t (L / v) := by
  have h1 : (L - 1) / v ≤ L / v := Nat.div_le_div_right (Nat.sub_le _ _)
  have h2 := div_less hv (show min t (L / v) * v < L by omega) (Nat.min_le_right _ _)
  omega
theorem cmp {σ v r : Nat → Nat} {K : Nat} (hd : ∀ i j, i < j → j < K → σ i ≠ σ j) (hv : ∀ j, j < K → 1 ≤ v (σ j) ∧ v (σ j) ≤ 99) (hs : ∀ i j, i ≤ j → j < K → v (σ j) ≤ v (σ i)) (h8 : ∀ d i, i + d = K → sumG (fun j => r (σ j)) d i ≤ 8) : ∀ (d i L : Nat) (T T' : Nat → Nat), i + d = K → (∀ j, i ≤ j → j < K → T' (σ j) = min 60 (T (σ j)) ∧ r (σ j) ≤ min 60 (T (σ j))) → (L ≤ 98 ∨ L ≤ sumG (fun j => r (σ j) * v (σ j)) d i) → ((payL σ v d i L T').1 = 0 → (payL σ v d i L T).1 = 0) ∧ ((payL σ v d i L T).1 = 0 → (payL σ v d i L T').1 ≠ 0 → 1 ≤ L ∧ ∃ j, i ≤ j ∧ j < K ∧ v (σ j) = 1 ∧ 61 ≤ T (σ j) ∧ ∀ T2 : Nat → Nat, (∀ j', i ≤ j' → j' < K → T2 (σ j') = if j' = j then T (σ j') - 1 else T (σ j')) → (payL σ v d i (L - 1) T2).1 = 0) := by
  intro d
  induction d with
  | zero =>
    intro i L T T' hi hT hL
    exact ⟨fun h => h, fun h1 h2 => absurd h1 h2⟩
  | succ d ih =>
    intro i L T T' hi hT hL
    obtain ⟨e1, e2⟩ := hT i (Nat.le_refl _) (by omega)
    obtain ⟨hv1, hv99⟩ := hv i (by omega)
    have hml := min_mul_le (T (σ i)) L (v (σ i))
    by_cases q : T (σ i) ≤ 60 ∨ L / v (σ i) ≤ 60
    · have ec : min (T' (σ i)) (L / v (σ i)) = min (T (σ i)) (L / v (σ i)) := by rw [e1]; omega
      have hL2 : L - min (T (σ i)) (L / v (σ i)) * v (σ i) ≤ 98 ∨ L - min (T (σ i)) (L / v (σ i)) * v (σ i) ≤ sumG (fun j => r (σ j) * v (σ j)) d (i + 1) := by
        by_cases q2 : L / v (σ i) ≤ T (σ i)
        · left
          rw [Nat.min_eq_right q2]
          have h1 := Nat.div_add_mod' L (v (σ i))
          have h2 := Nat.mod_lt L (show v (σ i) > 0 by omega)
          omega
        · rcases hL with hL | hL
          · left; omega
          · right
            rw [Nat.min_eq_left (by omega)]
            have hL : L ≤ r (σ i) * v (σ i) + sumG (fun j => r (σ j) * v (σ j)) d (i + 1) := hL
            have h3 : r (σ i) * v (σ i) ≤ T (σ i) * v (σ i) := Nat.mul_le_mul_right _ (by omega)
            omega
      have ihh := ih (i + 1) (L - min (T (σ i)) (L / v (σ i)) * v (σ i)) (fun q => if q = σ i then T (σ i) - min (T (σ i)) (L / v (σ i)) else T q) (fun q => if q = σ i then T' (σ i) - min (T' (σ i)) (L / v (σ i)) else T' q) (by omega) (fun j h1 h2 => by
        show (if σ j = σ i then _ else T' (σ j)) = min 60 (if σ j = σ i then _ else T (σ j)) ∧ r (σ j) ≤ min 60 (if σ j = σ i then _ else T (σ j))
        rw [if_neg (Ne.symm (hd i j (by omega) h2)), if_neg (Ne.symm (hd i j (by omega) h2))]
        exact hT j (by omega) h2) hL2
      have eP : (payL σ v (d + 1) i L T).1 = (payL σ v d (i + 1) (L - min (T (σ i)) (L / v (σ i)) * v (σ i)) (fun q => if q = σ i then T (σ i) - min (T (σ i)) (L / v (σ i)) else T q)).1 := rfl
      have eP' : (payL σ v (d + 1) i L T').1 = (payL σ v d (i + 1) (L - min (T (σ i)) (L / v (σ i)) * v (σ i)) (fun q => if q = σ i then T' (σ i) - min (T' (σ i)) (L / v (σ i)) else T' q)).1 := by
        rw [← ec]; rfl
      rw [eP, eP']
      refine ⟨ihh.1, fun h1 h2 => ?_⟩
      obtain ⟨g1, j, g2, g3, g4, g5, g6⟩ := ihh.2 h1 h2
      have hne : σ j ≠ σ i := Ne.symm (hd i j (by omega) g3)
      have g5 : 61 ≤ (if σ j = σ i then T (σ i) - min (T (σ i)) (L / v (σ i)) else T (σ j)) := g5
      rw [if_neg hne] at g5
      refine ⟨by omega, j, by omega, g3, g4, g5, fun T2 hT2 => ?_⟩
      have hTi : T2 (σ i) = T (σ i) := by
        rw [hT2 i (Nat.le_refl _) (by omega), if_neg (by omega)]
      have em := min_less (t := T (σ i)) hv1 g1
      show (payL σ v d (i + 1) (L - 1 - min (T2 (σ i)) ((L - 1) / v (σ i)) * v (σ i)) (fun q => if q = σ i then T2 (σ i) - min (T2 (σ i)) ((L - 1) / v (σ i)) else T2 q)).1 = 0
      rw [hTi, em, show L - 1 - min (T (σ i)) (L / v (σ i)) * v (σ i) = L - min (T (σ i)) (L / v (σ i)) * v (σ i) - 1 by omega]
      refine g6 _ (fun j' h3 h4 => ?_)
      have hne' : σ j' ≠ σ i := Ne.symm (hd i j' (by omega) h4)
      show (if σ j' = σ i then _ else T2 (σ j')) = (if j' = j then (if σ j' = σ i then _ else T (σ j')) - 1 else (if σ j' = σ i then _ else T (σ j')))
      rw [if_neg hne', if_neg hne']
      exact hT2 j' (by omega) h4
    · have q1 : 60 < T (σ i) := by omega
      have q2 : 60 < L / v (σ i) := by omega
      have q3 : 61 * v (σ i) ≤ L := (Nat.le_div_iff_mul_le (by omega)).mp q2
      have hv_one : v (σ i) = 1 := by
        rcases hL with hL | hL
        · omega
        · exfalso
          have h1 : sumG (fun j => r (σ j) * v (σ j)) (d + 1) i ≤ sumG (fun j => r (σ j) * v (σ i)) (d + 1) i := Sv_le (d + 1) i (fun j h2 h3 => Nat.mul_le_mul_left _ (hs i j h2 (by omega)))
          rw [Sv_mul (fun j => r (σ j)) (v (σ i)) (d + 1) i] at h1
          have h2 : sumG (fun j => r (σ j)) (d + 1) i * v (σ i) ≤ 8 * v (σ i) := Nat.mul_le_mul_right _ (h8 (d + 1) i hi)
          omega
      have ones : ∀ j, i ≤ j → j < K → v (σ j) = 1 := fun j h1 h2 => by
        have := hs i j h1 h2
        have := (hv j h2).1
        omega
      rw [pay_1 hd (d + 1) i L T hi ones, pay_1 hd (d + 1) i L T' hi ones]
      have hle : sumG (fun j => T' (σ j)) (d + 1) i ≤ sumG (fun j => T (σ j)) (d + 1) i := Sv_le (d + 1) i (fun j h1 h2 => by
        rw [(hT j h1 (by omega)).1]
        exact Nat.min_le_right _ _)
      refine ⟨fun h => by omega, fun h1 h2 => ⟨by omega, i, Nat.le_refl _, by omega, hv_one, by omega, fun T2 hT2 => ?_⟩⟩
      rw [pay_1 hd (d + 1) i (L - 1) T2 hi ones]
      have h3 : T2 (σ i) = T (σ i) - 1 := by rw [hT2 i (Nat.le_refl _) (by omega), if_pos rfl]
      have h4 : sumG (fun j => T2 (σ j)) (d + 1) i + 1 = sumG (fun j => T (σ j)) (d + 1) i := by
        show T2 (σ i) + sumG (fun j => T2 (σ j)) d (i + 1) + 1 = T (σ i) + sumG (fun j => T (σ j)) d (i + 1)
        rw [Sv_cong (g := fun j => T (σ j)) d (i + 1) (fun j h5 h6 => by
          show T2 (σ j) = T (σ j)
          rw [hT2 j (by omega) (by omega), if_neg (by omega)]), h3]
        omega
      omega
