theorem p_cheat (N : Nat) {K C : Nat} {rlen cu cg mu mg tube goods stick kicks kcnt low high price wired : Nat → Int32} {lost stamps sales damp worn seed : Int32} {w : Nat → Int32}  (h : RSt K C rlen cu cg mu mg tube goods stick kicks kcnt low high price wired lost stamps sales damp worn seed w 0) (hK : K ≤ 5) (hC : C ≤ 5) {j : Nat} (hj : j < C) : fX4_cheatOf N price wired (nI j) = some (price (wired j).toNatClampNeg - price j) ∧ fX8_cheatOf N w (nI j) = some (price (wired j).toNatClampNeg - price j) := by
  obtain ⟨hw, d, hd, ed⟩ := h.2.2.2.2.2.2.2.1 j hj
  have hp := (h.2.2.2.2.2.1 j hj).1
  have hp2 := (h.2.2.2.2.2.1 d hd).1
  constructor
  · unfold fX4_cheatOf
    rw [ck_nI (by omega) (by decide), nI_clamp (by omega), ed, ck_nI (by omega) (by decide), lt_e]
  · unfold fX8_cheatOf
    rw [ck_at (i := 40 + nI j) (j := 40 + j) (n := 240) (nI_add 40 j) (by omega) (by decide), show Int32.toNatClampNeg (40 + nI j) = 0 + 40 + j from (cl_add (a := 40) (b := j) (by omega)).trans (by omega), hw, ed, ck_at (i := 25 + nI d) (j := 25 + d) (n := 240) (nI_add 25 d) (by omega) (by decide), ck_at (i := 25 + nI j) (j := 25 + j) (n := 240) (nI_add 25 j) (by omega) (by decide), show Int32.toNatClampNeg (25 + nI j) = 0 + 25 + j from (cl_add (a := 25) (b := j) (by omega)).trans (by omega), show Int32.toNatClampNeg (25 + nI d) = 0 + 25 + d from (cl_add (a := 25) (b := d) (by omega)).trans (by omega), lt_e, hp, hp2, nI_clamp (by omega)]
theorem p_value (N K : Nat) (hK : K ≤ 5) {value mvalue tube w : Nat → Int32} (h1 : ∀ k, k < K → mvalue k = value k) (h2 : ∀ k, k < K → w k = tube k) : ∀ (d i : Nat) (a : Int32) (f : Nat), i + d = K → d < f → ∃ r : Int32, fX1_valueOfTubes_L4 N f a (nI i) (nI K) value tube = some r ∧ fX8_valueOfAll_L4 N f a (nI i) (nI K) mvalue w = some r := by
  intro d
  induction d with
  | zero =>
    intro i a f hi hf
    obtain ⟨f, rfl⟩ : ∃ g, f = g + 1 := ⟨f - 1, by omega⟩
    refine ⟨a, ?_, ?_⟩
    · rw [fX1_valueOfTubes_L4_s, if_pos (nI_le (by omega) (by omega))]
    · rw [fX8_valueOfAll_L4_s, if_pos (nI_le (by omega) (by omega))]
  | succ d ih =>
    intro i a f hi hf
    obtain ⟨f, rfl⟩ : ∃ g, f = g + 1 := ⟨f - 1, by omega⟩
    obtain ⟨r, e1, e2⟩ := ih (i + 1) (a + value i * tube i) f (by omega) (by omega)
    refine ⟨r, ?_, ?_⟩
    · rw [fX1_valueOfTubes_L4_s, if_neg (nI_ge (by omega) (by omega)), ck_nI (by omega) (by decide), lt_e, lt_e, nI_clamp (by omega), nI_1]
      exact e1
    · rw [fX8_valueOfAll_L4_s, if_neg (nI_ge (by omega) (by omega)), ck_nI (by omega) (by decide), ck_nI (by omega) (by decide), lt_e, lt_e, nI_clamp (by omega), nI_1, h1 i (by omega), h2 i (by omega)]
      exact e2
