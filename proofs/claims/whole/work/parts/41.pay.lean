/-! paying back: the class by its order, the reference by the greatest that is left -/
theorem pigeon : ∀ (n : Nat) (f : Nat → Nat), (∀ i, i < n → f i < n) → (∀ i j, i < j → j < n → f i ≠ f j) → ∀ k, k < n → ∃ i, i < n ∧ f i = k := by
  intro n
  induction n with
  | zero => intro f _ _ k hk; omega
  | succ n ih =>
    intro f h1 h2 k hk
    have hinj : ∀ i j, i < n + 1 → j < n + 1 → f i = f j → i = j := by
      intro i j hi hj e
      rcases Nat.lt_trichotomy i j with q | q | q
      · exact absurd e (h2 i j q hj)
      · exact q
      · exact absurd e.symm (h2 j i q hi)
    by_cases hn : ∃ i, i < n + 1 ∧ f i = n
    · obtain ⟨i0, hi0, e0⟩ := hn
      by_cases hkn : k = n
      · exact ⟨i0, hi0, by omega⟩
      · obtain ⟨i, hi, ei⟩ := ih (fun i => if f i = n then f n else f i) (by
          intro i hi
          show (if f i = n then f n else f i) < n
          by_cases q : f i = n
          · rw [if_pos q]
            have := h1 n (by omega)
            have h3 : f i ≠ f n := h2 i n hi (by omega)
            omega
          · rw [if_neg q]
            have := h1 i (by omega)
            omega) (by
          intro i j hij hj
          show (if f i = n then f n else f i) ≠ (if f j = n then f n else f j)
          have d1 := h2 i j hij (by omega)
          have d2 : f i ≠ f n := h2 i n (by omega) (by omega)
          have d3 : f j ≠ f n := h2 j n hj (by omega)
          by_cases q : f i = n <;> by_cases q2 : f j = n
          · omega
          · rw [if_pos q, if_neg q2]; omega
          · rw [if_neg q, if_pos q2]; omega
          · rw [if_neg q, if_neg q2]; omega) k (by omega)
        have ei : (if f i = n then f n else f i) = k := ei
        by_cases q : f i = n
        · rw [if_pos q] at ei; exact ⟨n, by omega, ei⟩
        · rw [if_neg q] at ei; exact ⟨i, by omega, ei⟩
    · exfalso
      have hlt : ∀ i, i < n + 1 → f i < n := fun i hi => by
        have h := h1 i hi
        rcases Nat.lt_or_ge (f i) n with q | q
        · exact q
        · exact absurd ⟨i, hi, by omega⟩ hn
      obtain ⟨i, hi, ei⟩ := ih f (fun i hi => hlt i (by omega)) (fun i j hij hj => h2 i j hij (by omega)) (f n) (hlt n (by omega))
      exact h2 i n hi (by omega) ei
theorem RPay.surj {K : Nat} {value : Nat → Int32} {σ : Nat → Nat} (h1 : ∀ i, i < K → σ i < K) (h : ∀ i j, i < j → j < K → (value (σ j)).toInt < (value (σ i)).toInt ∨ ((value (σ j)).toInt = (value (σ i)).toInt ∧ σ i < σ j)) : (∀ i j, i < j → j < K → σ i ≠ σ j) ∧ ∀ k, k < K → ∃ i, i < K ∧ σ i = k := by
  have hd : ∀ i j, i < j → j < K → σ i ≠ σ j := fun i j hij hj e => by
    have h2 := h i j hij hj
    rw [e] at h2
    omega
  exact ⟨hd, pigeon K σ h1 hd⟩
theorem p_gr (N K : Nat) (hK : K ≤ 5) (hN : 10 ≤ N) {value mvalue : Nat → Int32} (hv : ∀ k, k < K → mvalue k = value k) {T b : Nat} (hT : T < 256) (hb : b < K) (hbT : T.testBit b = false) (hbest : ∀ k, k < K → T.testBit k = false → k ≠ b → (value k).toInt < (value b).toInt ∨ ((value k).toInt = (value b).toInt ∧ b < k)) : fX8_greatest N (nI K) mvalue (nI T) = some (nI b) := by
  have L : ∀ (d i f : Nat) (x2 : Int32), i + d = K → d < f → (b < i → x2 = nI b) → (i ≤ b → x2 = -1 ∨ ∃ a, a < i ∧ x2 = nI a ∧ T.testBit a = false) → fX8_greatest_L4 N f (nI T) x2 (nI i) (nI K) mvalue = some (nI b) := by
    intro d
    induction d with
    | zero =>
      intro i f x2 hi hf h1 h2
      obtain ⟨f, rfl⟩ : ∃ g, f = g + 1 := ⟨f - 1, by omega⟩
      rw [fX8_greatest_L4_s, if_pos (nI_le (by omega) (by omega)), h1 (by omega)]
    | succ d ih =>
      intro i f x2 hi hf h1 h2
      obtain ⟨f, rfl⟩ : ∃ g, f = g + 1 := ⟨f - 1, by omega⟩
      rw [fX8_greatest_L4_s, if_neg (nI_ge (by omega) (by omega)), b_has N T hT i (by omega), bd_s]
      by_cases ht : T.testBit i = true
      · rw [if_pos ht, if_neg (by decide), lt_e, nI_1]
        have hib : i ≠ b := fun e => by rw [e, hbT] at ht; exact absurd ht (by decide)
        refine ih (i + 1) f x2 (by omega) (by omega) (fun h => h1 (by omega)) (fun h => ?_)
        rcases h2 (by omega) with e | ⟨a, ha, e, t⟩
        · exact .inl e
        · exact .inr ⟨a, by omega, e, t⟩
      · have ht' : T.testBit i = false := by rw [Bool.not_eq_true] at ht; exact ht
        rw [if_neg ht, if_pos rfl]
        by_cases hx : x2 < 0
        · rw [if_pos hx, lt_e, nI_1]
          have hib : i ≤ b := by
            rcases Nat.lt_or_ge b i with q | q
            · rw [h1 q] at hx; exact absurd hx (nI_pos (by omega))
            · exact q
          refine ih (i + 1) f (nI i) (by omega) (by omega) (fun h => ?_) (fun h => .inr ⟨i, by omega, rfl, ht'⟩)
          rw [show i = b by omega]
        · rw [if_neg hx]
          have ha : ∃ a, a < i ∧ x2 = nI a ∧ T.testBit a = false ∧ (b < i → a = b) := by
            rcases Nat.lt_or_ge b i with q | q
            · exact ⟨b, q, h1 q, hbT, fun _ => rfl⟩
            · rcases h2 q with e | ⟨a, ha, e, t⟩
              · rw [e] at hx; exact absurd (by decide) hx
              · exact ⟨a, ha, e, t, fun h => by omega⟩
          obtain ⟨a, hai, rfl, hta, hab⟩ := ha
          rw [ck_nI (by omega) (by decide), ck_nI (by omega) (by decide), nI_clamp (by omega), nI_clamp (by omega), hv i (by omega), hv a (by omega)]
          by_cases hle : value i ≤ value a
          · rw [if_pos hle, lt_e, nI_1]
            refine ih (i + 1) f (nI a) (by omega) (by omega) (fun h => ?_) (fun h => .inr ⟨a, by omega, rfl, hta⟩)
            rcases Nat.lt_or_ge b i with q | q
            · rw [hab q]
            · have hib : i = b := by omega
              have hh := hbest a (by omega) hta (by omega)
              rw [le32, hib] at hle
              omega
          · rw [if_neg hle, lt_e, nI_1]
            refine ih (i + 1) f (nI i) (by omega) (by omega) (fun h => ?_) (fun h => .inr ⟨i, by omega, rfl, ht'⟩)
            rcases Nat.lt_or_ge b i with q | q
            · have hh := hbest i (by omega) ht' (by omega)
              rw [le32, hab q] at hle
              omega
            · rw [show i = b by omega]
  unfold fX8_greatest
  rw [show fX8_greatest_L4 N N (nI T) (-1) 0 (nI K) mvalue = some (nI b) from L K 0 N (-1) (by omega) (by omega) (fun h => by omega) (fun _ => .inl rfl), bd_s]
/-- paying back in plain numbers -/
def payL (σ v : Nat → Nat) : Nat → Nat → Nat → (Nat → Nat) → Nat × (Nat → Nat)
  | 0, _, left, t => (left, t)
  | d + 1, i, left, t => payL σ v d (i + 1) (left - min (t (σ i)) (left / v (σ i)) * v (σ i)) (fun q => if q = σ i then t (σ i) - min (t (σ i)) (left / v (σ i)) else t q)
theorem payL_le (σ v : Nat → Nat) : ∀ (d i left : Nat) (t : Nat → Nat), (payL σ v d i left t).1 ≤ left ∧ ∀ k, (payL σ v d i left t).2 k ≤ t k := by
  intro d
  induction d with
  | zero => intro i left t; exact ⟨Nat.le_refl _, fun k => Nat.le_refl _⟩
  | succ d ih =>
    intro i left t
    obtain ⟨h1, h2⟩ := ih (i + 1) (left - min (t (σ i)) (left / v (σ i)) * v (σ i)) (fun q => if q = σ i then t (σ i) - min (t (σ i)) (left / v (σ i)) else t q)
    refine ⟨Nat.le_trans h1 (Nat.sub_le _ _), fun k => Nat.le_trans (h2 k) ?_⟩
    show (if k = σ i then t (σ i) - min (t (σ i)) (left / v (σ i)) else t k) ≤ t k
    by_cases q : k = σ i
    · rw [if_pos q, q]; exact Nat.sub_le _ _
    · rw [if_neg q]; exact Nat.le_refl _
theorem min_mul_le (a l v : Nat) : min a (l / v) * v ≤ l := Nat.le_trans (Nat.mul_le_mul_right v (Nat.min_le_right _ _)) (Nat.div_mul_le_self l v)
theorem pay_c (N : Nat) {K : Nat} (hK : K ≤ 5) {value paid : Nat → Int32} {σ v : Nat → Nat} (hv : ∀ k, k < K → value k = nI (v k) ∧ 1 ≤ v k ∧ v k ≤ 99) (hσ : ∀ i, i < K → σ i < K ∧ paid i = nI (σ i)) (y : Int32) : ∀ (d i f left : Nat) (t : Nat → Nat) (tube : Nat → Int32), i + d = K → d < f → left < 1000000 → (∀ k, k < K → tube k = nI (t k) ∧ t k ≤ 100) → ∃ tube', fX1_payBack_L5 N f y (nI left) (nI i) (nI K) tube paid value = some (nI (payL σ v d i left t).1, tube') ∧ (∀ k, k < K → tube' k = nI ((payL σ v d i left t).2 k)) ∧ ∀ k, K ≤ k → tube' k = tube k := by
  intro d
  induction d with
  | zero =>
    intro i f left t tube hi hf hl ht
    obtain ⟨f, rfl⟩ : ∃ g, f = g + 1 := ⟨f - 1, by omega⟩
    refine ⟨tube, ?_, fun k hk => (ht k hk).1, fun _ _ => rfl⟩
    rw [fX1_payBack_L5_s, if_pos (nI_le (by omega) (by omega))]
    rfl
  | succ d ih =>
    intro i f left t tube hi hf hl ht
    obtain ⟨f, rfl⟩ : ∃ g, f = g + 1 := ⟨f - 1, by omega⟩
    obtain ⟨hs, ep⟩ := hσ i (by omega)
    obtain ⟨ev, hv1, hv2⟩ := hv (σ i) hs
    obtain ⟨et, ht2⟩ := ht (σ i) hs
    have hq : left / v (σ i) ≤ left := Nat.div_le_self _ _
    have hm := min_mul_le (t (σ i)) left (v (σ i))
    have hmt : min (t (σ i)) (left / v (σ i)) ≤ t (σ i) := Nat.min_le_left _ _
    obtain ⟨tube', e1, e2, e3⟩ := ih (i + 1) f (left - min (t (σ i)) (left / v (σ i)) * v (σ i)) (fun q => if q = σ i then t (σ i) - min (t (σ i)) (left / v (σ i)) else t q) (upd tube (σ i) (nI (t (σ i) - min (t (σ i)) (left / v (σ i))))) (by omega) (by omega) (by omega) (fun k hk => by
      by_cases q : k = σ i
      · subst q
        rw [upd_at]
        show _ = nI (if σ i = σ i then _ else _) ∧ (if σ i = σ i then _ else _) ≤ 100
        rw [if_pos rfl]
        exact ⟨rfl, Nat.le_trans (Nat.sub_le _ _) ht2⟩
      · rw [upd_ne q]
        show _ = nI (if k = σ i then _ else _) ∧ (if k = σ i then _ else _) ≤ 100
        rw [if_neg q]
        exact ht k hk)
    refine ⟨tube', ?_, e2, fun k hk => by rw [e3 k hk, upd_ne (by omega)]⟩
    rw [fX1_payBack_L5_s, if_neg (nI_ge (by omega) (by omega)), ck_nI (by omega) (by decide), lt_e, nI_clamp (by omega), ep, ck_nI (by omega) (by decide), nI_clamp (by omega), ev, if_neg (by rw [i0, s_le (by omega) (by decide)]; omega), nz_nI hv1 (by omega), s_div (by omega) (by omega), et]
    have emin : (if nI (left / v (σ i)) < nI (t (σ i)) then nI (left / v (σ i)) else nI (t (σ i))) = nI (min (t (σ i)) (left / v (σ i))) := by
      by_cases q : left / v (σ i) < t (σ i)
      · rw [if_pos ((s_lt (by omega) (by omega)).mpr q), Nat.min_eq_right (by omega)]
      · rw [if_neg (fun z => q ((s_lt (by omega) (by omega)).mp z)), Nat.min_eq_left (by omega)]
    rw [emin, lt_e, lt_e, lt_e, lt_e, s_sub hmt, s_mul, s_sub hm, nI_1]
    exact e1
theorem pay_m (N : Nat) (hN : 10 ≤ N) {K : Nat} (hK : K ≤ 5) {value mvalue : Nat → Int32} {σ v : Nat → Nat} (hmv : ∀ k, k < K → mvalue k = value k) (hv : ∀ k, k < K → value k = nI (v k) ∧ 1 ≤ v k ∧ v k ≤ 99) (hσ : ∀ i, i < K → σ i < K) (hord : ∀ i j, i < j → j < K → (value (σ j)).toInt < (value (σ i)).toInt ∨ ((value (σ j)).toInt = (value (σ i)).toInt ∧ σ i < σ j)) {x : Nat} (hx : x ≤ 180) : ∀ (d i f left T : Nat) (t : Nat → Nat) (w : Nat → Int32), i + d = K → d < f → left < 1000000 → T < 256 → (∀ k, k < K → (T.testBit k = true ↔ ∃ j, j < i ∧ σ j = k)) → (∀ k, k < K → w (x + k) = nI (t k) ∧ t k ≤ 100) → ∃ w', fX8_payBack_L8 N f (nI x) (nI left) (nI T) (nI i) (nI K) mvalue w = some (nI (payL σ v d i left t).1, w') ∧ (∀ k, k < K → w' (x + k) = nI ((payL σ v d i left t).2 k)) ∧ ∀ j, (j < x ∨ x + K ≤ j) → w' j = w j := by
  obtain ⟨hdist, hsurj⟩ := RPay.surj hσ hord
  intro d
  induction d with
  | zero =>
    intro i f left T t w hi hf hl hT hTb ht
    obtain ⟨f, rfl⟩ : ∃ g, f = g + 1 := ⟨f - 1, by omega⟩
    refine ⟨w, ?_, fun k hk => (ht k hk).1, fun _ _ => rfl⟩
    rw [fX8_payBack_L8_s, if_pos (nI_le (by omega) (by omega))]
    rfl
  | succ d ih =>
    intro i f left T t w hi hf hl hT hTb ht
    obtain ⟨f, rfl⟩ : ∃ g, f = g + 1 := ⟨f - 1, by omega⟩
    have hs := hσ i (by omega)
    obtain ⟨ev, hv1, hv2⟩ := hv (σ i) hs
    obtain ⟨et, ht2⟩ := ht (σ i) hs
    have hq : left / v (σ i) ≤ left := Nat.div_le_self _ _
    have hm := min_mul_le (t (σ i)) left (v (σ i))
    have hmt : min (t (σ i)) (left / v (σ i)) ≤ t (σ i) := Nat.min_le_left _ _
    have hfree : T.testBit (σ i) = false := by
      rw [← Bool.not_eq_true]
      intro z
      obtain ⟨j, hj, e⟩ := (hTb _ hs).mp z
      exact hdist j i hj (by omega) e
    have hg : fX8_greatest N (nI K) mvalue (nI T) = some (nI (σ i)) := by
      refine p_gr N K hK hN hmv hT hs hfree (fun k hk hkT hne => ?_)
      obtain ⟨j, hj, rfl⟩ := hsurj k hk
      have hij : i < j := by
        rcases Nat.lt_trichotomy j i with q | q | q
        · have := (hTb _ hk).mpr ⟨j, q, rfl⟩
          rw [hkT] at this; exact absurd this (by decide)
        · exact absurd (by rw [q]) hne
        · exact q
      exact hord i j hij hj
    have hT' := b_lt T hT (σ i) (by omega)
    obtain ⟨w', e1, e2, e3⟩ := ih (i + 1) f (left - min (t (σ i)) (left / v (σ i)) * v (σ i)) (T ||| 2 ^ σ i) (fun q => if q = σ i then t (σ i) - min (t (σ i)) (left / v (σ i)) else t q) (upd w (x + σ i) (nI (t (σ i) - min (t (σ i)) (left / v (σ i))))) (by omega) (by omega) (by omega) hT' (fun k hk => by
        rw [b_test, Bool.or_eq_true, hTb k hk, decide_eq_true_eq]
        constructor
        · rintro (⟨j, hj, e⟩ | e)
          · exact ⟨j, by omega, e⟩
          · exact ⟨i, by omega, e⟩
        · rintro ⟨j, hj, e⟩
          rcases Nat.lt_or_ge j i with q | q
          · exact .inl ⟨j, q, e⟩
          · right; rw [← e, show j = i by omega]) (fun k hk => by
      by_cases q : k = σ i
      · subst q
        rw [upd_at]
        show _ = nI (if σ i = σ i then _ else _) ∧ (if σ i = σ i then _ else _) ≤ 100
        rw [if_pos rfl]
        exact ⟨rfl, Nat.le_trans (Nat.sub_le _ _) ht2⟩
      · rw [upd_ne (by omega)]
        show _ = nI (if k = σ i then _ else _) ∧ (if k = σ i then _ else _) ≤ 100
        rw [if_neg q]
        exact ht k hk)
    refine ⟨w', ?_, e2, fun j hj => by rw [e3 j hj, upd_ne (by omega)]⟩
    rw [fX8_payBack_L8_s, if_neg (nI_ge (by omega) (by omega)), hg, bd_s, lt_e, ck_nI (by omega) (by decide), nI_clamp (by omega), hmv _ hs, ev, nz_nI hv1 (by omega), lt_e, s_div (by omega) (by omega), ck_at (nI_add x (σ i)) (by omega) (by decide), cl_add (by omega), et, b_or T hT _ (by omega)]
    by_cases q : t (σ i) ≤ left / v (σ i)
    · rw [if_pos ((s_le (by omega) (by omega)).mpr q), lt_e, lt_e, lt_e, lt_e]
      rw [Nat.min_eq_left q] at e1 hm
      show _ = some (nI (payL σ v d (i + 1) (left - min (t (σ i)) (left / v (σ i)) * v (σ i)) (fun q => if q = σ i then t (σ i) - min (t (σ i)) (left / v (σ i)) else t q)).1, w')
      rw [Nat.min_eq_left q, s_sub (Nat.le_refl _), s_mul, s_sub hm, nI_1]
      exact e1
    · rw [if_neg (fun z => q ((s_le (by omega) (by omega)).mp z)), lt_e, lt_e, lt_e]
      have q' : left / v (σ i) ≤ t (σ i) := by omega
      rw [Nat.min_eq_right q'] at e1 hm
      show _ = some (nI (payL σ v d (i + 1) (left - min (t (σ i)) (left / v (σ i)) * v (σ i)) (fun q => if q = σ i then t (σ i) - min (t (σ i)) (left / v (σ i)) else t q)).1, w')
      rw [Nat.min_eq_right q', s_sub (show left / v (σ i) ≤ t (σ i) by omega), s_mul, s_sub hm, nI_1]
      exact e1
