theorem hold_L2 (N : Nat) (a b : Nat → Int32) : ∀ (d i f : Nat), i + d = 5 → d < f → ((∀ j, i ≤ j → j < 5 → a j = b j) → fX4_holdsLike_L2 N f (nI i) a b = some (.inl ())) ∧ (¬ (∀ j, i ≤ j → j < 5 → a j = b j) → fX4_holdsLike_L2 N f (nI i) a b = some (.inr 0)) := by
  intro d
  induction d with
  | zero =>
    intro i f hi hf
    obtain ⟨f, rfl⟩ : ∃ g, f = g + 1 := ⟨f - 1, by omega⟩
    refine ⟨fun _ => ?_, fun h => absurd (fun j h1 h2 => by omega) h⟩
    rw [fX4_holdsLike_L2_s, if_pos (show (5 : Int32) ≤ nI i from (s_le (a := 5) (by decide) (by omega)).mpr (by omega))]
  | succ d ih =>
    intro i f hi hf
    obtain ⟨f, rfl⟩ : ∃ g, f = g + 1 := ⟨f - 1, by omega⟩
    obtain ⟨h1, h2⟩ := ih (i + 1) f (by omega) (by omega)
    rw [fX4_holdsLike_L2_s, if_neg (show ¬ (5 : Int32) ≤ nI i from fun z => by have := (s_le (a := 5) (by decide) (by omega)).mp z; omega), ck_nI (by omega) (by decide), nI_clamp (by omega)]
    by_cases q : a i = b i
    · rw [if_pos q, lt_e, nI_1]
      refine ⟨fun h => h1 (fun j hj => h j (by omega)), fun h => h2 (fun z => h (fun j hj hj2 => ?_))⟩
      by_cases e : j = i
      · rw [e, q]
      · exact z j (by omega) hj2
    · rw [if_neg q]
      exact ⟨fun h => absurd (h i (by omega) (by omega)) q, fun _ => rfl⟩
theorem hold_L32 (N : Nat) (a b : Nat → Int32) : ∀ (d i f : Nat), i + d = 5 → d < f → ((∀ j, i ≤ j → j < 5 → a j = b j) → fX4_holdsLike_L32 N f (nI i) a b = some (.inl ())) ∧ (¬ (∀ j, i ≤ j → j < 5 → a j = b j) → fX4_holdsLike_L32 N f (nI i) a b = some (.inr 0)) := by
  intro d
  induction d with
  | zero =>
    intro i f hi hf
    obtain ⟨f, rfl⟩ : ∃ g, f = g + 1 := ⟨f - 1, by omega⟩
    refine ⟨fun _ => ?_, fun h => absurd (fun j h1 h2 => by omega) h⟩
    rw [fX4_holdsLike_L32_s, if_pos (show (5 : Int32) ≤ nI i from (s_le (a := 5) (by decide) (by omega)).mpr (by omega))]
  | succ d ih =>
    intro i f hi hf
    obtain ⟨f, rfl⟩ : ∃ g, f = g + 1 := ⟨f - 1, by omega⟩
    obtain ⟨h1, h2⟩ := ih (i + 1) f (by omega) (by omega)
    rw [fX4_holdsLike_L32_s, if_neg (show ¬ (5 : Int32) ≤ nI i from fun z => by have := (s_le (a := 5) (by decide) (by omega)).mp z; omega), ck_nI (by omega) (by decide), nI_clamp (by omega)]
    by_cases q : a i = b i
    · rw [if_pos q, lt_e, nI_1]
      refine ⟨fun h => h1 (fun j hj => h j (by omega)), fun h => h2 (fun z => h (fun j hj hj2 => ?_))⟩
      by_cases e : j = i
      · rw [e, q]
      · exact z j (by omega) hj2
    · rw [if_neg q]
      exact ⟨fun h => absurd (h i (by omega) (by omega)) q, fun _ => rfl⟩
theorem p_holds (N : Nat) (hN : 10 ≤ N) (l s l2 s2 : Int32) (g g2 t t2 : Nat → Int32) : fX4_holdsLike N l s l2 s2 g g2 t t2 = some (@ite Int32 ((∀ j, j < 5 → t j = t2 j) ∧ (∀ j, j < 5 → g j = g2 j) ∧ l = l2 ∧ s = s2) (Classical.propDecidable _) 1 0) := by
  obtain ⟨a1, a2⟩ := hold_L2 N t t2 5 0 N (by omega) (by omega)
  obtain ⟨b1, b2⟩ := hold_L32 N g g2 5 0 N (by omega) (by omega)
  unfold fX4_holdsLike
  by_cases h1 : ∀ j, j < 5 → t j = t2 j
  · rw [show fX4_holdsLike_L2 N N 0 t t2 = _ from a1 (fun j _ hj => h1 j hj), bd_s]
    dsimp only
    by_cases h2 : ∀ j, j < 5 → g j = g2 j
    · rw [show fX4_holdsLike_L32 N N 0 g g2 = _ from b1 (fun j _ hj => h2 j hj), bd_s]
      dsimp only
      by_cases h3 : l = l2
      · rw [if_pos h3]
        by_cases h4 : s = s2
        · rw [if_pos h4, if_pos ⟨h1, h2, h3, h4⟩]
        · rw [if_neg h4, if_neg (fun z => h4 z.2.2.2)]
      · rw [if_neg h3, if_neg (fun z => h3 z.2.2.1)]
    · rw [show fX4_holdsLike_L32 N N 0 g g2 = _ from b2 (fun z => h2 (fun j hj => z j (by omega) hj)), bd_s]
      dsimp only
      rw [if_neg (fun z => h2 z.2.1)]
  · rw [show fX4_holdsLike_L2 N N 0 t t2 = _ from a2 (fun z => h1 (fun j hj => z j (by omega) hj)), bd_s]
    dsimp only
    rw [if_neg (fun z => h1 z.1)]
theorem now_L (N : Nat) (w : Nat → Int32) : ∀ (d i f : Nat) (x : Int32), i + d = 10 → d < f → (x = 0 ∨ x = 1) → fX8_isAsNow_L42 N f x (nI i) w = some (@ite Int32 (x = 1 ∧ ∀ j, i ≤ j → j < 10 → w j = w (60 + j)) (Classical.propDecidable _) 1 0) := by
  intro d
  induction d with
  | zero =>
    intro i f x hi hf hx
    obtain ⟨f, rfl⟩ : ∃ g, f = g + 1 := ⟨f - 1, by omega⟩
    rw [fX8_isAsNow_L42_s, if_pos (show (10 : Int32) ≤ nI i from (s_le (a := 10) (by decide) (by omega)).mpr (by omega))]
    rcases hx with rfl | rfl
    · rw [if_neg (fun z => absurd z.1 (by decide))]
    · rw [if_pos ⟨rfl, fun j h1 h2 => by omega⟩]
  | succ d ih =>
    intro i f x hi hf hx
    obtain ⟨f, rfl⟩ : ∃ g, f = g + 1 := ⟨f - 1, by omega⟩
    rw [fX8_isAsNow_L42_s, if_neg (show ¬ (10 : Int32) ≤ nI i from fun z => by have := (s_le (a := 10) (by decide) (by omega)).mp z; omega)]
    rcases hx with rfl | rfl
    · rw [if_pos rfl, lt_e, nI_1, ih (i + 1) f 0 (by omega) (by omega) (.inl rfl), if_neg (fun z => absurd z.1 (by decide)), if_neg (fun z => absurd z.1 (by decide))]
    · rw [if_neg (show ¬ (1 : Int32) = 0 by decide), show (60 : Int32) + nI i = nI (60 + i) from nI_add 60 i, ck_nI (by omega) (by decide), ck_nI (by omega) (by decide), nI_clamp (by omega), nI_clamp (by omega)]
      by_cases q : w i = w (60 + i)
      · rw [if_pos q, lt_e, nI_1, ih (i + 1) f 1 (by omega) (by omega) (.inr rfl)]
        congr 1
        by_cases h : ∀ j, i ≤ j → j < 10 → w j = w (60 + j)
        · rw [if_pos ⟨rfl, fun j h1 h2 => h j (by omega) h2⟩, if_pos ⟨rfl, h⟩]
        · rw [if_neg (fun z => h (fun j h1 h2 => ?_)), if_neg (fun z => h z.2)]
          by_cases e : j = i
          · rw [e, q]
          · exact z.2 j (by omega) h2
      · rw [if_neg q, lt_e, nI_1, ih (i + 1) f 0 (by omega) (by omega) (.inl rfl), if_neg (fun z => absurd z.1 (by decide)), if_neg (fun z => q (z.2 i (by omega) (by omega)))]
theorem p_isAsNow (N : Nat) (hN : 20 ≤ N) (w : Nat → Int32) : fX8_isAsNow N w = some (@ite Int32 (w 45 = w 105 ∧ w 46 = w 106 ∧ ∀ j, j < 10 → w j = w (60 + j)) (Classical.propDecidable _) 1 0) := by
  have e0 := now_L N w 10 0 N 0 (by omega) (by omega) (.inl rfl)
  have e1 := now_L N w 10 0 N 1 (by omega) (by omega) (.inr rfl)
  rw [if_neg (fun z => absurd z.1 (by decide))] at e0
  unfold fX8_isAsNow
  rw [ck_at (i := 45) (j := 45) rfl (by decide) (by decide), ck_at (i := 105) (j := 105) rfl (by decide) (by decide), ck_at (i := 46) (j := 46) rfl (by decide) (by decide), ck_at (i := 106) (j := 106) rfl (by decide) (by decide)]
  by_cases h1 : w 45 = w 105
  · rw [if_pos (show w (Int32.toNatClampNeg 45) = w (Int32.toNatClampNeg 105) from h1)]
    by_cases h2 : w 46 = w 106
    · rw [if_pos (show w (Int32.toNatClampNeg 46) = w (Int32.toNatClampNeg 106) from h2), show fX8_isAsNow_L42 N N 1 0 w = _ from e1, bd_s]
      by_cases h3 : ∀ j, j < 10 → w j = w (60 + j)
      · rw [if_pos ⟨rfl, fun j _ hj => h3 j hj⟩, if_pos ⟨h1, h2, h3⟩]; rfl
      · rw [if_neg (fun z => h3 (fun j hj => z.2 j (by omega) hj)), if_neg (fun z => h3 z.2.2)]; rfl
    · rw [if_neg (show ¬ w (Int32.toNatClampNeg 46) = w (Int32.toNatClampNeg 106) from h2), show fX8_isAsNow_L42 N N 0 0 w = _ from e0, if_neg (fun z => h2 z.2.1)]; rfl
  · rw [if_neg (show ¬ w (Int32.toNatClampNeg 45) = w (Int32.toNatClampNeg 105) from h1), show fX8_isAsNow_L42 N N 0 0 w = _ from e0, if_neg (fun z => h1 z.1)]; rfl
theorem p_like (N : Nat) (hN : 20 ≤ N) {K C : Nat} {rlen cu cg mu mg tube goods stick kicks kcnt low high price wired : Nat → Int32} {lost stamps sales damp worn seed : Int32} {w : Nat → Int32}  {tube' goods' stick' kicks' kcnt' low' high' price' wired' : Nat → Int32} {lost' stamps' sales' damp' worn' seed' : Int32} (h : RSt K C rlen cu cg mu mg tube goods stick kicks kcnt low high price wired lost stamps sales damp worn seed w 0) (g : RSt K C rlen cu cg mu mg tube' goods' stick' kicks' kcnt' low' high' price' wired' lost' stamps' sales' damp' worn' seed' w 60) (hK : K ≤ 5) (hC : C ≤ 5) : ∃ r : Int32, (r = 0 ∨ r = 1) ∧ fX4_holdsLike N lost' stamps' lost stamps goods' goods tube' tube = some r ∧ fX8_isAsNow N w = some r := by
  rw [p_holds N (by omega), p_isAsNow N hN]
  have e1 : w 45 = lost := by have := h.2.2.2.2.2.2.2.2.2.1.1; simpa using this
  have e2 : w 46 = stamps := by have := h.2.2.2.2.2.2.2.2.2.2.1.1; simpa using this
  have e3 : w 105 = lost' := g.2.2.2.2.2.2.2.2.2.1.1
  have e4 : w 106 = stamps' := g.2.2.2.2.2.2.2.2.2.2.1.1
  have hiff : ((∀ j, j < 5 → tube' j = tube j) ∧ (∀ j, j < 5 → goods' j = goods j) ∧ lost' = lost ∧ stamps' = stamps) ↔ (w 45 = w 105 ∧ w 46 = w 106 ∧ ∀ j, j < 10 → w j = w (60 + j)) := by
    rw [e1, e2, e3, e4]
    have tb : ∀ j, j < 5 → (tube' j = tube j ↔ w j = w (60 + j)) := by
      intro j hj
      rcases Nat.lt_or_ge j K with q | q
      · have a := (h.1 j q).1
        rw [Nat.zero_add] at a
        rw [a, (g.1 j q).1]; exact ⟨fun z => z.symm, fun z => z.symm⟩
      · have a := h.2.1 j q hj
        have b := g.2.1 j q hj
        rw [Nat.zero_add] at a
        rw [a.1, b.1, a.2, b.2]
        exact ⟨fun _ => rfl, fun _ => rfl⟩
    have gd : ∀ j, j < 5 → (goods' j = goods j ↔ w (5 + j) = w (60 + (5 + j))) := by
      intro j hj
      rcases Nat.lt_or_ge j C with q | q
      · have a := (h.2.2.1 j q).1
        have b := (g.2.2.1 j q).1
        rw [Nat.zero_add] at a
        rw [← Nat.add_assoc, a, b]; exact ⟨fun z => z.symm, fun z => z.symm⟩
      · have a := h.2.2.2.1 j q hj
        have b := g.2.2.2.1 j q hj
        rw [Nat.zero_add] at a
        rw [← Nat.add_assoc, a.1, b.1, a.2, b.2]
        exact ⟨fun _ => rfl, fun _ => rfl⟩
    constructor
    · rintro ⟨a, b, c, d⟩
      refine ⟨c.symm, d.symm, fun j hj => ?_⟩
      rcases Nat.lt_or_ge j 5 with q | q
      · exact (tb j q).mp (a j q)
      · have := (gd (j - 5) (by omega)).mp (b (j - 5) (by omega))
        rw [show 5 + (j - 5) = j by omega] at this
        exact this
    · rintro ⟨c, d, e⟩
      exact ⟨fun j hj => (tb j hj).mpr (e j (by omega)), fun j hj => (gd j hj).mpr (e (5 + j) (by omega)), c.symm, d.symm⟩
  by_cases q : w 45 = w 105 ∧ w 46 = w 106 ∧ ∀ j, j < 10 → w j = w (60 + j)
  · exact ⟨1, .inr rfl, by rw [if_pos (hiff.mpr q)], by rw [if_pos q]⟩
  · exact ⟨0, .inl rfl, by rw [if_neg (fun z => q (hiff.mp z))], by rw [if_neg q]⟩
