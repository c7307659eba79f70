theorem copy_L2 (N : Nat) (src : Nat → Int32) : ∀ (d i f : Nat) (g : Nat → Int32), i + d = 5 → d < f → ∃ g', fX4_copyFrom_L2 N f (nI i) g src = some g' ∧ ∀ j, j < 5 → g' j = if i ≤ j then src j else g j := by
  intro d
  induction d with
  | zero =>
    intro i f g hi hf
    obtain ⟨f, rfl⟩ : ∃ g, f = g + 1 := ⟨f - 1, by omega⟩
    refine ⟨g, ?_, fun j hj => by rw [if_neg (by omega)]⟩
    rw [fX4_copyFrom_L2_s, if_pos (show (5 : Int32) ≤ nI i from (s_le (a := 5) (by decide) (by omega)).mpr (by omega))]
  | succ d ih =>
    intro i f g hi hf
    obtain ⟨f, rfl⟩ : ∃ g, f = g + 1 := ⟨f - 1, by omega⟩
    obtain ⟨g', e1, e2⟩ := ih (i + 1) f (upd g i (src i)) (by omega) (by omega)
    refine ⟨g', ?_, fun j hj => ?_⟩
    · rw [fX4_copyFrom_L2_s, if_neg (show ¬ (5 : Int32) ≤ nI i from fun z => by have := (s_le (a := 5) (by decide) (by omega)).mp z; omega), ck_nI (by omega) (by decide), lt_e, lt_e, nI_1, nI_clamp (by omega)]
      exact e1
    · rw [e2 j hj]
      by_cases q : j = i
      · subst q; rw [if_neg (by omega), if_pos (by omega), upd_at]
      · rw [upd_ne q]
        by_cases q2 : i + 1 ≤ j
        · rw [if_pos q2, if_pos (by omega)]
        · rw [if_neg q2, if_neg (by omega)]
theorem copy_L27 (N : Nat) (s_goods s_stick s_kicks s_kcnt s_low s_high s_price s_wired : Nat → Int32) : ∀ (d i f : Nat) (g_goods g_stick g_kicks g_kcnt g_low g_high g_price g_wired : Nat → Int32), i + d = 5 → d < f → ∃ r_goods r_stick r_kicks r_kcnt r_low r_high r_price r_wired, fX4_copyFrom_L27 N f (nI i) g_goods s_goods g_stick s_stick g_kicks s_kicks g_kcnt s_kcnt g_low s_low g_high s_high g_price s_price g_wired s_wired = some (r_goods, r_stick, r_kicks, r_kcnt, r_low, r_high, r_price, r_wired) ∧ ∀ j, j < 5 → r_goods j = (if i ≤ j then s_goods j else g_goods j) ∧ r_stick j = (if i ≤ j then s_stick j else g_stick j) ∧ r_kicks j = (if i ≤ j then s_kicks j else g_kicks j) ∧ r_kcnt j = (if i ≤ j then s_kcnt j else g_kcnt j) ∧ r_low j = (if i ≤ j then s_low j else g_low j) ∧ r_high j = (if i ≤ j then s_high j else g_high j) ∧ r_price j = (if i ≤ j then s_price j else g_price j) ∧ r_wired j = (if i ≤ j then s_wired j else g_wired j) := by
  intro d
  induction d with
  | zero =>
    intro i f g_goods g_stick g_kicks g_kcnt g_low g_high g_price g_wired hi hf
    obtain ⟨f, rfl⟩ : ∃ g, f = g + 1 := ⟨f - 1, by omega⟩
    refine ⟨g_goods, g_stick, g_kicks, g_kcnt, g_low, g_high, g_price, g_wired, ?_, fun j hj => ?_⟩
    · rw [fX4_copyFrom_L27_s, if_pos (show (5 : Int32) ≤ nI i from (s_le (a := 5) (by decide) (by omega)).mpr (by omega))]
    · have q : ¬ i ≤ j := by omega
      exact ⟨by rw [if_neg q], by rw [if_neg q], by rw [if_neg q], by rw [if_neg q], by rw [if_neg q], by rw [if_neg q], by rw [if_neg q], by rw [if_neg q]⟩
  | succ d ih =>
    intro i f g_goods g_stick g_kicks g_kcnt g_low g_high g_price g_wired hi hf
    obtain ⟨f, rfl⟩ : ∃ g, f = g + 1 := ⟨f - 1, by omega⟩
    obtain ⟨r_goods, r_stick, r_kicks, r_kcnt, r_low, r_high, r_price, r_wired, e1, e2⟩ := ih (i + 1) f (upd g_goods i (s_goods i)) (upd g_stick i (s_stick i)) (upd g_kicks i (s_kicks i)) (upd g_kcnt i (s_kcnt i)) (upd g_low i (s_low i)) (upd g_high i (s_high i)) (upd g_price i (s_price i)) (upd g_wired i (s_wired i)) (by omega) (by omega)
    refine ⟨r_goods, r_stick, r_kicks, r_kcnt, r_low, r_high, r_price, r_wired, ?_, fun j hj => ?_⟩
    · rw [fX4_copyFrom_L27_s, if_neg (show ¬ (5 : Int32) ≤ nI i from fun z => by have := (s_le (a := 5) (by decide) (by omega)).mp z; omega), ck_nI (by omega) (by decide), lt_e, lt_e, lt_e, lt_e, lt_e, lt_e, lt_e, lt_e, lt_e, nI_1, nI_clamp (by omega)]
      exact e1
    · have st : ∀ (r s g : Nat → Int32), r j = (if i + 1 ≤ j then s j else upd g i (s i) j) → r j = if i ≤ j then s j else g j := by
        intro r s g e
        rw [e]
        by_cases q : j = i
        · subst q; rw [if_neg (by omega), if_pos (by omega), upd_at]
        · rw [upd_ne q]
          by_cases q2 : i + 1 ≤ j
          · rw [if_pos q2, if_pos (by omega)]
          · rw [if_neg q2, if_neg (by omega)]
      obtain ⟨z_goods, z_stick, z_kicks, z_kcnt, z_low, z_high, z_price, z_wired⟩ := e2 j hj
      exact ⟨st _ _ _ z_goods, st _ _ _ z_stick, st _ _ _ z_kicks, st _ _ _ z_kcnt, st _ _ _ z_low, st _ _ _ z_high, st _ _ _ z_price, st _ _ _ z_wired⟩
/-- the class's copy of a state -/
theorem p_copyC (N : Nat) (hN : 10 ≤ N) {o_lost o_stamps o_sales o_damp o_worn o_seed lost stamps sales damp worn seed : Int32} {o_tube o_goods o_stick o_kicks o_kcnt o_low o_high o_price o_wired tube goods stick kicks kcnt low high price wired : Nat → Int32} : ∃ tube' goods' stick' kicks' kcnt' low' high' price' wired' : Nat → Int32, fX4_copyFrom N o_lost o_stamps o_sales o_damp o_worn o_seed lost stamps sales damp worn seed o_tube tube o_goods goods o_stick stick o_kicks kicks o_kcnt kcnt o_low low o_high high o_price price o_wired wired = some (lost, stamps, sales, damp, worn, seed, tube', goods', stick', kicks', kcnt', low', high', price', wired') ∧ ∀ j, j < 5 → tube' j = tube j ∧ goods' j = goods j ∧ stick' j = stick j ∧ kicks' j = kicks j ∧ kcnt' j = kcnt j ∧ low' j = low j ∧ high' j = high j ∧ price' j = price j ∧ wired' j = wired j := by
  obtain ⟨tube', e1, e2⟩ := copy_L2 N tube 5 0 N o_tube (by omega) (by omega)
  obtain ⟨goods', stick', kicks', kcnt', low', high', price', wired', f1, f2⟩ := copy_L27 N goods stick kicks kcnt low high price wired 5 0 N o_goods o_stick o_kicks o_kcnt o_low o_high o_price o_wired (by omega) (by omega)
  refine ⟨tube', goods', stick', kicks', kcnt', low', high', price', wired', ?_, fun j hj => ?_⟩
  · unfold fX4_copyFrom
    rw [show fX4_copyFrom_L2 N N 0 o_tube tube = some tube' from e1, bd_s, show fX4_copyFrom_L27 N N 0 o_goods goods o_stick stick o_kicks kicks o_kcnt kcnt o_low low o_high high o_price price o_wired wired = some (goods', stick', kicks', kcnt', low', high', price', wired') from f1, bd_s]
  · have e := e2 j hj
    have f := f2 j hj
    simp only [if_pos (Nat.zero_le j)] at e f
    obtain ⟨z_goods, z_stick, z_kicks, z_kcnt, z_low, z_high, z_price, z_wired⟩ := f
    exact ⟨e, z_goods, z_stick, z_kicks, z_kcnt, z_low, z_high, z_price, z_wired⟩
/-- the reference's copy of a row -/
theorem p_copyM (N : Nat) (hN : 100 ≤ N) {x y : Nat} (hx : x ≤ 180) (hy : y ≤ 180) (hxy : x + 60 ≤ y ∨ y + 60 ≤ x) (w : Nat → Int32) : ∃ w', fX8_copy N w (nI x) (nI y) = some w' ∧ (∀ j, j < 60 → w' (y + j) = w (x + j)) ∧ ∀ j, (j < y ∨ y + 60 ≤ j) → w' j = w j := by
  have L : ∀ (d i f : Nat) (g : Nat → Int32), i + d = 60 → d < f → ∃ g', fX8_copy_L2 N f (nI x) (nI y) (nI i) g = some g' ∧ (∀ j, j < 60 → g' (y + j) = if i ≤ j then g (x + j) else g (y + j)) ∧ ∀ j, (j < y ∨ y + 60 ≤ j) → g' j = g j := by
    intro d
    induction d with
    | zero =>
      intro i f g hi hf
      obtain ⟨f, rfl⟩ : ∃ g, f = g + 1 := ⟨f - 1, by omega⟩
      refine ⟨g, ?_, fun j hj => by rw [if_neg (by omega)], fun _ _ => rfl⟩
      rw [fX8_copy_L2_s, if_pos (show (60 : Int32) ≤ nI i from (s_le (a := 60) (by decide) (by omega)).mpr (by omega))]
    | succ d ih =>
      intro i f g hi hf
      obtain ⟨f, rfl⟩ : ∃ g, f = g + 1 := ⟨f - 1, by omega⟩
      obtain ⟨g', e1, e2, e3⟩ := ih (i + 1) f (upd g (y + i) (g (x + i))) (by omega) (by omega)
      refine ⟨g', ?_, fun j hj => ?_, fun j hj => ?_⟩
      · rw [fX8_copy_L2_s, if_neg (show ¬ (60 : Int32) ≤ nI i from fun z => by have := (s_le (a := 60) (by decide) (by omega)).mp z; omega), nI_add, nI_add, ck_nI (by omega) (by decide), lt_e, ck_nI (by omega) (by decide), lt_e, nI_1, nI_clamp (by omega), nI_clamp (by omega)]
        exact e1
      · rw [e2 j hj, upd_ne (show x + j ≠ y + i by omega)]
        by_cases q : j = i
        · subst q; rw [if_neg (by omega), if_pos (by omega), upd_at]
        · rw [upd_ne (show y + j ≠ y + i by omega)]
          by_cases q2 : i + 1 ≤ j
          · rw [if_pos q2, if_pos (by omega)]
          · rw [if_neg q2, if_neg (by omega)]
      · rw [e3 j hj, upd_ne (by omega)]
  obtain ⟨w', e1, e2, e3⟩ := L 60 0 N w (by omega) (by omega)
  refine ⟨w', ?_, fun j hj => by rw [e2 j hj, if_pos (Nat.zero_le _)], e3⟩
  unfold fX8_copy
  rw [show fX8_copy_L2 N N (nI x) (nI y) 0 w = some w' from e1, bd_s]
theorem RSt.ext {K C : Nat} {rlen cu cg mu mg tube goods stick kicks kcnt low high price wired : Nat → Int32} {lost stamps sales damp worn seed : Int32} {w : Nat → Int32} {x : Nat} (h : RSt K C rlen cu cg mu mg tube goods stick kicks kcnt low high price wired lost stamps sales damp worn seed w x) (hK : K ≤ 5) (hC : C ≤ 5) {tube' goods' stick' kicks' kcnt' low' high' price' wired' w' : Nat → Int32} {y : Nat} (e : ∀ j, j < 5 → tube' j = tube j ∧ goods' j = goods j ∧ stick' j = stick j ∧ kicks' j = kicks j ∧ kcnt' j = kcnt j ∧ low' j = low j ∧ high' j = high j ∧ price' j = price j ∧ wired' j = wired j) (w0 : ∀ j, j < 60 → w' (y + j) = w (x + j)) : RSt K C rlen cu cg mu mg tube' goods' stick' kicks' kcnt' low' high' price' wired' lost stamps sales damp worn seed w' y := by
  have w2 : ∀ a c, a + c < 60 → w' (y + a + c) = w (x + a + c) := fun a c hc => by rw [Nat.add_assoc, Nat.add_assoc]; exact w0 _ hc
  obtain ⟨h1, h2, h3, h4, h5, h6, h7, h8, h9, h10, h11, h12, h13, h14, h15⟩ := h
  exact ⟨fun k hk => by rw [w0 k (by omega), (e k (by omega)).1]; exact h1 k hk, fun k hk hk2 => by rw [w0 k (by omega), (e k (by omega)).1]; exact h2 k hk hk2, fun c hc => by rw [w2 5 c (by omega), (e c (by omega)).2.1]; exact h3 c hc, fun c hc hc2 => by rw [w2 5 c (by omega), (e c (by omega)).2.1]; exact h4 c hc hc2, fun c hc => by rw [w2 10 c (by omega), (e c (by omega)).2.2.1]; exact h5 c hc, fun c hc => by rw [w2 25 c (by omega), (e c (by omega)).2.2.2.2.2.2.2.1]; exact h6 c hc, fun c hc => by rw [w2 30 c (by omega), w2 35 c (by omega), (e c (by omega)).2.2.2.2.2.1, (e c (by omega)).2.2.2.2.2.2.1]; exact h7 c hc, fun c hc => by rw [w2 40 c (by omega), (e c (by omega)).2.2.2.2.2.2.2.2]; exact h8 c hc, fun c hc => by rw [w2 20 c (by omega), w2 15 c (by omega), (e c (by omega)).2.2.2.2.1, (e c (by omega)).2.2.2.1, (e c (by omega)).2.2.1]; exact h9 c hc, by rw [w0 45 (by omega)]; exact h10, by rw [w0 46 (by omega)]; exact h11, by rw [w0 47 (by omega)]; exact h12, by rw [w0 48 (by omega)]; exact h13, by rw [w0 49 (by omega)]; exact h14, by rw [w0 50 (by omega)]; exact h15⟩
