/-! rhythms that fit -/
theorem sub_1 {e m : Nat} (he : 1 ≤ e) : nI (e - 1) - nI m + 1 = nI e - nI m := by
  rw [show nI e = nI (e - 1) + 1 from by rw [nI_1, Nat.sub_add_cancel he], Int32.sub_eq_add_neg, Int32.sub_eq_add_neg, Int32.add_assoc, Int32.add_comm (-nI m) 1, ← Int32.add_assoc]
theorem fr_L (N : Nat) {t m l : Nat} (ht : t < 10) (hm1 : 1 ≤ m) (hm : m ≤ 6) (hl : l ≤ 8) {len row mlong mrow : Nat → Int32} (el : len t = nI l) (eml : mlong t = nI l) (er : mrow t = row t) (rh : Int32) : ∀ (d e f : Nat), m ≤ e → e ≤ 9 → l + 1 ≤ e + d → d < f → (fX6_kicksUntilFree_L3 N f (nI t) rh (nI m) (nI e) len row = some (.inl ()) ∧ fX8_freeAt_L5 N f (nI t) (nI m) rh (nI (e - 1)) mlong mrow = some (.inl ())) ∨ (∃ e', 1 ≤ e' ∧ e' ≤ l ∧ fX6_kicksUntilFree_L3 N f (nI t) rh (nI m) (nI e) len row = some (.inr (nI e')) ∧ fX8_freeAt_L5 N f (nI t) (nI m) rh (nI (e - 1)) mlong mrow = some (.inr (nI (e' - 1)))) := by
  intro d
  induction d with
  | zero =>
    intro e f h1 h2 h3 hf
    obtain ⟨f, rfl⟩ : ∃ g, f = g + 1 := ⟨f - 1, by omega⟩
    left
    rw [fX6_kicksUntilFree_L3_s, ck_nI ht (by decide), nI_clamp (by omega), el, if_pos ((s_lt (by omega) (by omega)).mpr (by omega)), fX8_freeAt_L5_s, ck_nI ht (by decide), nI_clamp (by omega), eml, if_pos ((s_le (by omega) (by omega)).mpr (by omega))]
    exact ⟨rfl, rfl⟩
  | succ d ih =>
    intro e f h1 h2 h3 hf
    obtain ⟨f, rfl⟩ : ∃ g, f = g + 1 := ⟨f - 1, by omega⟩
    rw [fX6_kicksUntilFree_L3_s, ck_nI ht (by decide), nI_clamp (by omega), el, fX8_freeAt_L5_s, ck_nI ht (by decide), nI_clamp (by omega), eml]
    by_cases q : l < e
    · left
      rw [if_pos ((s_lt (by omega) (by omega)).mpr q), if_pos ((s_le (by omega) (by omega)).mpr (by omega))]
      exact ⟨rfl, rfl⟩
    · rw [if_neg (fun z => q ((s_lt (by omega) (by omega)).mp z)), if_neg (fun z => by have := (s_le (by omega) (by omega)).mp z; omega), sub_1 (by omega), er, lt_e]
      by_cases q2 : ((row t >>> ((nI e - nI m) &&& 31)) &&& ((1 <<< (nI m &&& 31)) - 1)) = rh
      · right
        rw [if_pos q2, if_pos q2]
        exact ⟨e, by omega, by omega, rfl, rfl⟩
      · rw [if_neg q2, if_neg q2, lt_e, lt_e, nI_1, nI_1, Nat.sub_add_cancel (show 1 ≤ e by omega)]
        exact ih (e + 1) f (by omega) (by omega) (by omega) (by omega)
theorem cb_0 (N : Nat) {n : Nat} (hn : n ≤ 10) (x1 x2 : Int32) (mlong mrow mfree : Nat → Int32) : ∀ (d i f : Nat), i + d = n → d < f → fX8_canBe_L5 N f x1 x2 0 (nI i) (nI n) mlong mrow mfree = some 0 := by
  intro d
  induction d with
  | zero =>
    intro i f hi hf
    obtain ⟨f, rfl⟩ : ∃ g, f = g + 1 := ⟨f - 1, by omega⟩
    rw [fX8_canBe_L5_s, if_pos (nI_le (by omega) (by omega))]
  | succ d ih =>
    intro i f hi hf
    obtain ⟨f, rfl⟩ : ∃ g, f = g + 1 := ⟨f - 1, by omega⟩
    rw [fX8_canBe_L5_s, if_neg (nI_ge (by omega) (by omega)), if_pos rfl, lt_e, nI_1]
    exact ih (i + 1) f (by omega) (by omega)
theorem al_L (N : Nat) (hN : 100 ≤ N) {n m : Nat} (hn : n ≤ 10) (hm1 : 1 ≤ m) (hm : m ≤ 6) {row len free mrow mlong mfree : Nat → Int32} (ht : ∀ i, i < n → (mrow i = row i ∧ isN (row i) 0 255) ∧ (mlong i = len i ∧ isN (len i) 1 8) ∧ mfree i = free i ∧ (free i = 0 ∨ free i = 1)) (rh : Int32) : ∀ (d i f : Nat), i + d = n → d < f → (fX6_allow_L2 N f rh (nI m) (nI i) (nI n) free len row = some (.inl ()) ∧ fX8_canBe_L5 N f (nI m) rh 1 (nI i) (nI n) mlong mrow mfree = some 1) ∨ (fX6_allow_L2 N f rh (nI m) (nI i) (nI n) free len row = some (.inr 0) ∧ fX8_canBe_L5 N f (nI m) rh 1 (nI i) (nI n) mlong mrow mfree = some 0) := by
  intro d
  induction d with
  | zero =>
    intro i f hi hf
    obtain ⟨f, rfl⟩ : ∃ g, f = g + 1 := ⟨f - 1, by omega⟩
    left
    rw [fX6_allow_L2_s, if_pos (nI_le (by omega) (by omega)), fX8_canBe_L5_s, if_pos (nI_le (by omega) (by omega))]
    exact ⟨rfl, rfl⟩
  | succ d ih =>
    intro i f hi hf
    obtain ⟨f, rfl⟩ : ∃ g, f = g + 1 := ⟨f - 1, by omega⟩
    obtain ⟨⟨e1, -⟩, ⟨e2, l, hl1, hl8, e3⟩, e4, e5⟩ := ht i (by omega)
    have hz := cb_0 N hn (nI m) rh mlong mrow mfree d (i + 1) f (by omega) (by omega)
    have hor := fr_L N (t := i) (by omega) hm1 hm hl8 e3 (e2.trans e3) e1 rh 10 m N (by omega) (by omega) (by omega) (by omega)
    have hs1 : nI m - 1 = nI (m - 1) := s_sub1 hm1
    have hs2 : nI l - 1 = nI (l - 1) := s_sub1 hl1
    have q10 : ∀ a : Option Int32, ck (nI i) 10 a = a := fun a => ck_nI (by omega) (by decide) a
    have hcl : (nI i).toNatClampNeg = i := nI_clamp (by omega)
    rw [fX6_allow_L2_s, if_neg (nI_ge (by omega) (by omega)), ck_nI (by omega) (by decide), hcl, fX8_canBe_L5_s, if_neg (nI_ge (by omega) (by omega)), if_neg (show ¬ (1 : Int32) = 0 by decide)]
    have kX : ∀ z, fX6_kicksUntilFree_L3 N N (nI i) rh (nI m) (nI m) len row = some (.inr z) → fX6_kicksUntilFree N len row (nI i) rh (nI m) = some z := fun z hz => by
      unfold fX6_kicksUntilFree
      rw [hz, bd_s]
    have kM : ∀ z, fX8_freeAt_L5 N N (nI i) (nI m) rh (nI (m - 1)) mlong mrow = some (.inr z) → fX8_freeAt N mlong mrow (nI i) (nI m) rh = some z := fun z hz => by
      unfold fX8_freeAt
      rw [lt_e, hs1, hz, bd_s]
    have kX0 : fX6_kicksUntilFree_L3 N N (nI i) rh (nI m) (nI m) len row = some (.inl ()) → fX6_kicksUntilFree N len row (nI i) rh (nI m) = some (-1) := fun hz => by
      unfold fX6_kicksUntilFree
      rw [hz, bd_s]
    have kM0 : fX8_freeAt_L5 N N (nI i) (nI m) rh (nI (m - 1)) mlong mrow = some (.inl ()) → fX8_freeAt N mlong mrow (nI i) (nI m) rh = some (-1) := fun hz => by
      unfold fX8_freeAt
      rw [lt_e, hs1, hz, bd_s]
    rcases hor with ⟨k1, k2⟩ | ⟨e', he1, he2, k1, k2⟩
    · rw [kX0 k1, kM0 k2]
      simp only [bd_s, q10, hcl, e4]
      rcases e5 with e5 | e5
      · rw [e5, if_pos (show (0 : Int32) = 0 from rfl), if_pos (show (0 : Int32) = 0 from rfl), if_pos True.intro, if_pos True.intro, lt_e, lt_e, nI_1]
        exact ih (i + 1) f (by omega) (by omega)
      · right
        have n1 : ¬ (-1 : Int32) = nI l := by rw [eq32, nIt l (by omega)]; show ¬ (-1 : Int) = l; omega
        have n2 : ¬ (-1 : Int32) = nI (l - 1) := by rw [eq32, nIt _ (by omega)]; show ¬ (-1 : Int) = (l - 1 : Nat); omega
        rw [e5, if_neg (show ¬ (1 : Int32) = 0 by decide), if_neg (show ¬ (1 : Int32) = 0 by decide), lt_e, e2, e3, if_neg n1, hs2, if_neg n2, lt_e, nI_1]
        exact ⟨rfl, hz⟩
    · rw [kX _ k1, kM _ k2]
      simp only [bd_s, q10, hcl, e4]
      rcases e5 with e5 | e5
      · right
        have n1 : ¬ nI e' = (-1 : Int32) := by rw [eq32, nIt e' (by omega)]; show ¬ (e' : Int) = -1; omega
        have n2 : ¬ nI (e' - 1) = (-1 : Int32) := by rw [eq32, nIt _ (by omega)]; show ¬ ((e' - 1 : Nat) : Int) = -1; omega
        rw [e5, if_pos (show (0 : Int32) = 0 from rfl), if_pos (show (0 : Int32) = 0 from rfl), if_neg n1, if_neg n2, lt_e, nI_1]
        exact ⟨rfl, hz⟩
      · rw [e5, if_neg (show ¬ (1 : Int32) = 0 by decide), if_neg (show ¬ (1 : Int32) = 0 by decide), lt_e, e2, e3, hs2]
        by_cases q : e' = l
        · rw [q, if_pos rfl, if_pos rfl, lt_e, lt_e, nI_1]
          exact ih (i + 1) f (by omega) (by omega)
        · right
          rw [if_neg (fun z => q ((nI_eq (by omega) (by omega)).mp z)), if_neg (fun z => q (by have := (nI_eq (by omega) (by omega)).mp z; omega)), lt_e, nI_1]
          exact ⟨rfl, hz⟩
theorem p_allow (N : Nat) (hN : 100 ≤ N) {n m : Nat} (hn : n ≤ 10) (hm1 : 1 ≤ m) (hm : m ≤ 6) {row len free mrow mlong mfree : Nat → Int32} (ht : ∀ i, i < n → (mrow i = row i ∧ isN (row i) 0 255) ∧ (mlong i = len i ∧ isN (len i) 1 8) ∧ mfree i = free i ∧ (free i = 0 ∨ free i = 1)) (rh : Int32) : ∃ r : Int32, fX6_allow N (nI n) free len row rh (nI m) = some r ∧ fX8_canBe N (nI n) mlong mrow mfree (nI m) rh = some r := by
  unfold fX6_allow fX8_canBe
  rcases al_L N hN hn hm1 hm ht rh n 0 N (by omega) (by omega) with ⟨h1, h2⟩ | ⟨h1, h2⟩
  · refine ⟨1, ?_, ?_⟩
    · rw [show fX6_allow_L2 N N rh (nI m) 0 (nI n) free len row = _ from h1, bd_s]
    · rw [show fX8_canBe_L5 N N (nI m) rh 1 0 (nI n) mlong mrow mfree = _ from h2, bd_s, bl_1]
  · refine ⟨0, ?_, ?_⟩
    · rw [show fX6_allow_L2 N N rh (nI m) 0 (nI n) free len row = _ from h1, bd_s]
    · rw [show fX8_canBe_L5 N N (nI m) rh 1 0 (nI n) mlong mrow mfree = _ from h2, bd_s, bl_0]
theorem fit_L (N : Nat) (hN : 100 ≤ N) {n m : Nat} (hn : n ≤ 10) (hm1 : 1 ≤ m) (hm : m ≤ 6) {row len free mrow mlong mfree : Nat → Int32} (ht : ∀ i, i < n → (mrow i = row i ∧ isN (row i) 0 255) ∧ (mlong i = len i ∧ isN (len i) 1 8) ∧ mfree i = free i ∧ (free i = 0 ∨ free i = 1)) (x2 : Int32) : ∀ (d r f : Nat) (a : Int32), r + d = 2 ^ m → d < f → ∃ o, fX7_fits_L19 N f (nI m) x2 a (nI r) (nI n) free len row = some o ∧ fX8_fits_L20 N f (nI m) x2 a (nI r) (nI n) mlong mrow mfree = some o := by
  have hsh := sh_1 m (by omega)
  have hpw : 2 ^ m ≤ 64 := Nat.pow_le_pow_right (n := 2) (by decide) hm
  intro d
  induction d with
  | zero =>
    intro r f a hr hf
    obtain ⟨f, rfl⟩ : ∃ g, f = g + 1 := ⟨f - 1, by omega⟩
    refine ⟨.inl a, ?_, ?_⟩
    · rw [fX7_fits_L19_s, hsh, if_pos (nI_le (by omega) (by omega))]
    · rw [fX8_fits_L20_s, hsh, if_pos (nI_le (by omega) (by omega))]
  | succ d ih =>
    intro r f a hr hf
    obtain ⟨f, rfl⟩ : ∃ g, f = g + 1 := ⟨f - 1, by omega⟩
    obtain ⟨z, e1, e2⟩ := p_allow N hN hn hm1 hm ht (nI r)
    rw [fX7_fits_L19_s, hsh, if_neg (nI_ge (by omega) (by omega)), e1, bd_s, fX8_fits_L20_s, hsh, if_neg (nI_ge (by omega) (by omega)), e2, bd_s]
    by_cases q : z = 0
    · rw [if_pos q, if_pos q, lt_e, lt_e, nI_1]
      exact ih (r + 1) f a (by omega) (by omega)
    · rw [if_neg q, if_neg q]
      by_cases q2 : a = x2
      · rw [if_pos q2, if_pos q2]
        exact ⟨_, rfl, rfl⟩
      · rw [if_neg q2, if_neg q2, lt_e, lt_e, lt_e, lt_e, nI_1]
        exact ih (r + 1) f _ (by omega) (by omega)
