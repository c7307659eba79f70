/-! the two readers, token by token -/
def TX (n : Nat) (B : Nat → Nat) (fb tx : Nat → Int32) : Prop := n ≤ 400 ∧ ∀ j, j < n → B j < 256 ∧ fb j &&& 255 = nI (B j) ∧ tx j = nI (B j)
theorem bd_id {α : Type} (o : Option α) : (bd o fun g => some g) = o := by cases o <;> rfl
theorem t_byte (N : Nat) {n : Nat} {B : Nat → Nat} {fb tx : Nat → Int32} (h : TX n B fb tx) {i : Nat} (hi : i ≤ 1000) : fX5_byteAt N (nI n) fb (nI i) = some (if i < n then nI (B i) else -1) := by
  obtain ⟨hn, hB⟩ := h
  unfold fX5_byteAt
  rw [if_neg (nI_pos (by omega))]
  by_cases q : i < n
  · rw [if_neg (nI_ge q (by omega)), if_pos (show nI i < 400 from (s_lt (b := 400) (by omega) (by decide)).mpr (by omega)), ck_nI (by omega) (by decide), nI_clamp (by omega), (hB i q).2.1, lt_e, if_pos q]
  · rw [if_pos (nI_le (by omega) (by omega)), if_neg q]
theorem t_b32 {n : Nat} {B : Nat → Nat} {fb tx : Nat → Int32} (h : TX n B fb tx) {i c : Nat} (hi : i < n) (hc : c < 256) : nI (B i) = nI c ↔ B i = c := nI_eq (by have := (h.2 i hi).1; omega) (by omega)
theorem t_skip (N : Nat) {n : Nat} {B : Nat → Nat} {fb tx : Nat → Int32} (h : TX n B fb tx) : ∀ (d i f : Nat), i + d = n → d < f → ∃ p, i ≤ p ∧ p ≤ n ∧ fX2_skipBlanks_L0 N f (nI i) (nI n) fb = some (nI p) ∧ fX8_here_L0 N f (nI n) (nI i) tx = some (nI p) ∧ (p < n → B p ≠ 32) := by
  have hn := h.1
  intro d
  induction d with
  | zero =>
    intro i f hi hf
    obtain ⟨f, rfl⟩ : ∃ g, f = g + 1 := ⟨f - 1, by omega⟩
    refine ⟨i, Nat.le_refl _, by omega, ?_, ?_, fun z => by omega⟩
    · rw [fX2_skipBlanks_L0_s, if_pos (nI_le (by omega) (by omega))]
    · rw [fX8_here_L0_s, if_pos (nI_le (by omega) (by omega))]
  | succ d ih =>
    intro i f hi hf
    obtain ⟨f, rfl⟩ : ∃ g, f = g + 1 := ⟨f - 1, by omega⟩
    have hb := t_b32 h (i := i) (c := 32) (by omega) (by decide)
    rw [fX2_skipBlanks_L0_s, if_neg (nI_ge (by omega) (by omega)), t_byte N h (by omega), bd_s, if_pos (show i < n by omega), fX8_here_L0_s, if_neg (nI_ge (by omega) (by omega)), ck_nI (by omega) (by decide), nI_clamp (by omega), (h.2 i (by omega)).2.2]
    by_cases q : B i = 32
    · obtain ⟨p, h1, h2, h3, h4, h5⟩ := ih (i + 1) f (by omega) (by omega)
      refine ⟨p, by omega, h2, ?_, ?_, h5⟩
      · rw [if_pos (show nI (B i) = 32 from hb.mpr q), lt_e, nI_1]; exact h3
      · rw [if_pos (show nI (B i) = 32 from hb.mpr q), lt_e, nI_1]; exact h4
    · refine ⟨i, Nat.le_refl _, by omega, ?_, ?_, fun _ => q⟩
      · rw [if_neg (show ¬ nI (B i) = 32 from fun z => q (hb.mp z))]
      · rw [if_neg (show ¬ nI (B i) = 32 from fun z => q (hb.mp z))]
theorem x_skip_far (N : Nat) {n i : Nat} (hi : n ≤ i) (h2 : i ≤ 1000) (fb : Nat → Int32) : fX2_skipBlanks N (nI i) (nI n) fb = some (nI i) := by
  unfold fX2_skipBlanks
  rw [if_pos (nI_le hi (by omega))]
/-- blanks skipped, and what stands there -/
theorem t_here (N : Nat) (hN : 1000 ≤ N) {n : Nat} {B : Nat → Nat} {fb tx : Nat → Int32} (h : TX n B fb tx) {i : Nat} (hi : i ≤ n) : ∃ p, i ≤ p ∧ p ≤ n ∧ fX2_skipBlanks N (nI i) (nI n) fb = some (nI p) ∧ fX8_here N (nI n) (nI i) tx = some ((if p < n then nI (B p) else -1), nI p) ∧ (p < n → B p ≠ 32) ∧ (i < n → B i ≠ 32 → p = i) := by
  have hn := h.1
  by_cases q0 : i = n
  · subst q0
    refine ⟨i, Nat.le_refl _, Nat.le_refl _, x_skip_far N (Nat.le_refl _) (by omega) fb, ?_, fun z => by omega, fun z => by omega⟩
    unfold fX8_here
    rw [if_pos (nI_le (Nat.le_refl _) (by omega)), if_pos (nI_le (Nat.le_refl _) (by omega)), if_neg (by omega)]
  · have hb := t_b32 h (i := i) (c := 32) (by omega) (by decide)
    unfold fX2_skipBlanks fX8_here
    rw [if_neg (nI_ge (by omega) (by omega)), t_byte N h (by omega), bd_s, if_pos (show i < n by omega), if_neg (nI_ge (by omega) (by omega)), ck_nI (by omega) (by decide), nI_clamp (by omega), (h.2 i (by omega)).2.2]
    by_cases q : B i = 32
    · obtain ⟨p, h1, h2, h3, h4, h5⟩ := t_skip N h (n - (i + 1)) (i + 1) N (by omega) (by omega)
      refine ⟨p, by omega, h2, ?_, ?_, h5, fun _ z => absurd q z⟩
      · rw [if_pos (show nI (B i) = 32 from hb.mpr q), lt_e, nI_1, h3, bd_s]
      · rw [if_pos (show nI (B i) = 32 from hb.mpr q), lt_e, nI_1, h4, bd_s]
        by_cases q2 : p < n
        · rw [if_neg (nI_ge q2 (by omega)), ck_nI (by omega) (by decide), nI_clamp (by omega), (h.2 p q2).2.2, lt_e, if_pos q2]
        · rw [if_pos (nI_le (by omega) (by omega)), if_neg q2]
    · refine ⟨i, Nat.le_refl _, hi, ?_, ?_, fun _ => q, fun _ _ => rfl⟩
      · rw [if_neg (show ¬ nI (B i) = 32 from fun z => q (hb.mp z))]
      · rw [if_neg (show ¬ nI (B i) = 32 from fun z => q (hb.mp z)), if_neg (nI_ge (by omega) (by omega)), lt_e, if_pos (show i < n by omega)]
theorem t_letter (N : Nat) {n : Nat} {B : Nat → Nat} {fb tx : Nat → Int32} (h : TX n B fb tx) {i : Nat} (hi : i < n) : fX5_isLetter N (nI n) fb (nI i) = some (if 97 ≤ B i ∧ B i ≤ 122 then 1 else 0) ∧ fX8_in N (Int32.toInt64 (tx i)) 97 122 = some (if 97 ≤ B i ∧ B i ≤ 122 then 1 else 0) ∧ fX5_isFigure N (nI n) fb (nI i) = some (if 48 ≤ B i ∧ B i ≤ 57 then 1 else 0) ∧ fX8_in N (Int32.toInt64 (tx i)) 48 57 = some (if 48 ≤ B i ∧ B i ≤ 57 then 1 else 0) := by
  have hn := h.1
  obtain ⟨h1, -, h3⟩ := h.2 i hi
  have ml : ∀ a b : Nat, a ≤ 1000 → b ≤ 1000 → (((a : Nat) : Int) ≤ ((B i : Nat) : Int) ∧ ((B i : Nat) : Int) ≤ ((b : Nat) : Int) ↔ a ≤ B i ∧ B i ≤ b) := fun a b _ _ => by omega
  refine ⟨?_, ?_, ?_, ?_⟩
  · unfold fX5_isLetter
    rw [t_byte N h (by omega), bd_s, if_pos hi, bd_s]
    by_cases q1 : B i < 97
    · rw [if_pos (show nI (B i) < 97 from (s_lt (b := 97) (by omega) (by decide)).mpr q1), if_neg (by omega)]
    · rw [if_neg (show ¬ nI (B i) < 97 from fun z => q1 ((s_lt (b := 97) (by omega) (by decide)).mp z))]
      by_cases q2 : 122 < B i
      · rw [if_pos (show (122 : Int32) < nI (B i) from (s_lt (a := 122) (by decide) (by omega)).mpr q2), if_neg (by omega)]
      · rw [if_neg (show ¬ (122 : Int32) < nI (B i) from fun z => q2 ((s_lt (a := 122) (by decide) (by omega)).mp z)), if_pos (by omega)]
  · rw [p_in, wide, h3, nIt _ (by omega)]
    congr 1
    by_cases q : 97 ≤ B i ∧ B i ≤ 122
    · rw [if_pos q, if_pos (show (97 : Int64).toInt ≤ ((B i : Nat) : Int) ∧ ((B i : Nat) : Int) ≤ (122 : Int64).toInt from (ml 97 122 (by decide) (by decide)).mpr q)]
    · rw [if_neg q, if_neg (show ¬ ((97 : Int64).toInt ≤ ((B i : Nat) : Int) ∧ ((B i : Nat) : Int) ≤ (122 : Int64).toInt) from fun z => q ((ml 97 122 (by decide) (by decide)).mp z))]
  · unfold fX5_isFigure
    rw [t_byte N h (by omega), bd_s, if_pos hi, bd_s]
    by_cases q1 : B i < 48
    · rw [if_pos (show nI (B i) < 48 from (s_lt (b := 48) (by omega) (by decide)).mpr q1), if_neg (by omega)]
    · rw [if_neg (show ¬ nI (B i) < 48 from fun z => q1 ((s_lt (b := 48) (by omega) (by decide)).mp z))]
      by_cases q2 : 57 < B i
      · rw [if_pos (show (57 : Int32) < nI (B i) from (s_lt (a := 57) (by decide) (by omega)).mpr q2), if_neg (by omega)]
      · rw [if_neg (show ¬ (57 : Int32) < nI (B i) from fun z => q2 ((s_lt (a := 57) (by decide) (by omega)).mp z)), if_pos (by omega)]
  · rw [p_in, wide, h3, nIt _ (by omega)]
    congr 1
    by_cases q : 48 ≤ B i ∧ B i ≤ 57
    · rw [if_pos q, if_pos (show (48 : Int64).toInt ≤ ((B i : Nat) : Int) ∧ ((B i : Nat) : Int) ≤ (57 : Int64).toInt from (ml 48 57 (by decide) (by decide)).mpr q)]
    · rw [if_neg q, if_neg (show ¬ ((48 : Int64).toInt ≤ ((B i : Nat) : Int) ∧ ((B i : Nat) : Int) ≤ (57 : Int64).toInt) from fun z => q ((ml 48 57 (by decide) (by decide)).mp z))]
theorem t_wordL (N : Nat) {n : Nat} {B : Nat → Nat} {fb tx : Nat → Int32} (h : TX n B fb tx) : ∀ (d i f : Nat), i + d = n → d < f → ∃ q, i ≤ q ∧ q ≤ n ∧ fX2_takeWord_L12 N f (nI i) (nI n) fb = some (nI q) ∧ fX8_takeWord_L13 N f (nI n) (nI i) tx = some (nI q) := by
  have hn := h.1
  intro d
  induction d with
  | zero =>
    intro i f hi hf
    obtain ⟨f, rfl⟩ : ∃ g, f = g + 1 := ⟨f - 1, by omega⟩
    refine ⟨i, Nat.le_refl _, by omega, ?_, ?_⟩
    · rw [fX2_takeWord_L12_s, if_pos (nI_le (by omega) (by omega))]
    · rw [fX8_takeWord_L13_s, if_pos (nI_le (by omega) (by omega))]
  | succ d ih =>
    intro i f hi hf
    obtain ⟨f, rfl⟩ : ∃ g, f = g + 1 := ⟨f - 1, by omega⟩
    obtain ⟨l1, l2, -, -⟩ := t_letter N h (i := i) (by omega)
    rw [fX2_takeWord_L12_s, if_neg (nI_ge (by omega) (by omega)), l1, bd_s, fX8_takeWord_L13_s, if_neg (nI_ge (by omega) (by omega)), ck_nI (by omega) (by decide), nI_clamp (by omega), l2, bd_s]
    by_cases q : 97 ≤ B i ∧ B i ≤ 122
    · obtain ⟨q1, h1, h2, h3, h4⟩ := ih (i + 1) f (by omega) (by omega)
      rw [if_pos q, if_neg (show ¬ (1 : Int32) = 0 by decide), if_neg (show ¬ (1 : Int32) = 0 by decide), lt_e, lt_e, nI_1]
      exact ⟨q1, by omega, h2, h3, h4⟩
    · rw [if_neg q, if_pos rfl, if_pos rfl]
      exact ⟨i, Nat.le_refl _, by omega, rfl, rfl⟩
theorem t_word (N : Nat) (hN : 1000 ≤ N) {n : Nat} {B : Nat → Nat} {fb tx : Nat → Int32} (h : TX n B fb tx) {i : Nat} (hi : i ≤ n) (tok first len : Int32) : ∃ p q, i ≤ p ∧ p ≤ q ∧ q ≤ n ∧ fX2_takeWord N (nI i) tok (nI n) fb = some (nI q, nI p) ∧ fX8_takeWord N (nI n) (nI i) first len tx = some (nI q, nI p, nI (q - p)) := by
  have hn := h.1
  obtain ⟨p, h1, h2, h3, h4, -, -⟩ := t_here N hN h hi
  obtain ⟨q, k1, k2, k3, k4⟩ := t_wordL N h (n - p) p N (by omega) (by omega)
  refine ⟨p, q, h1, k1, k2, ?_, ?_⟩
  · unfold fX2_takeWord
    rw [h3, bd_s, k3, bd_s]
  · unfold fX8_takeWord
    rw [h4, bd_s]
    dsimp only
    rw [k4, bd_s, lt_e, s_sub k1]
/-! words -/
theorem isw_0 (N f : Nat) (x1 x2 x3 x4 x5 x6 x7 x9 first : Int32) (tx : Nat → Int32) : fX8_isWord_L18 N (f + 1) x1 x2 x3 x4 x5 x6 x7 0 x9 first tx = some 0 := by
  rw [fX8_isWord_L18_s]
  by_cases q : x1 ≤ x9
  · rw [if_pos q]
  · rw [if_neg q, if_pos rfl]
theorem t_is_coin (N : Nat) (hN : 1000 ≤ N) {n : Nat} {B : Nat → Nat} {fb tx : Nat → Int32} (h : TX n B fb tx) {p q : Nat} (hpq : p ≤ q) (hq : q ≤ n) : ∃ r : Int32, (r = 0 ∨ (r = 1 ∧ p + 4 = q)) ∧ fX2_wordIs N (nI q) (nI p) (nI n) fb 0 = some r ∧ fX8_isWord N (nI p) (nI (q - p)) tx 4 99 111 105 110 0 0 = some r := by
  have hn := h.1
  obtain ⟨g, rfl⟩ : ∃ g, N = g + 6 := ⟨N - 6, by omega⟩
  unfold fX2_wordIs fX8_isWord
  rw [s_sub hpq]
  by_cases ql : q - p = 4
  · rw [if_pos (show nI (q - p) = nI (lenS.getD 0 0) from by rw [ql]; rfl), if_pos (show nI (q - p) = 4 from by rw [ql]; rfl)]
    rw [show fX2_wordIs_L20 (g + 6) 0 (g + 6) 0 (nI p) (nI n) fb = (if nI (B (p + 0)) = 99 then fX2_wordIs_L20 (g + 6) 0 (g + 5) 1 (nI p) (nI n) fb else some (.inr 0)) from by
      rw [fX2_wordIs_L20_s, if_neg (show ¬ nI (lenS.getD 0 0) ≤ 0 by decide), show nI p + 0 = nI (p + 0) from nI_add p 0, t_byte _ h (by omega), bd_s, if_pos (show p + 0 < n by omega), ck_at (i := 0) (j := 0) rfl (by decide) (by decide)]
      rfl, show fX8_isWord_L18 (g + 6) (g + 6) 4 99 111 105 110 0 0 1 0 (nI p) tx = (if nI (B (p + 0)) = 99 then fX8_isWord_L18 (g + 6) (g + 5) 4 99 111 105 110 0 0 1 1 (nI p) tx else fX8_isWord_L18 (g + 6) (g + 5) 4 99 111 105 110 0 0 0 1 (nI p) tx) from by
      rw [fX8_isWord_L18_s, if_neg (show ¬ (4 : Int32) ≤ 0 by decide), if_neg (show ¬ (1 : Int32) = 0 by decide), show nI p + 0 = nI (p + 0) from nI_add p 0, ck_nI (by omega) (by decide), nI_clamp (by omega), (h.2 (p + 0) (by omega)).2.2, if_pos (show (0 : Int32) = 0 from rfl), lt_e, lt_e]
      rfl]
    by_cases e0 : nI (B (p + 0)) = 99
    case neg =>
      rw [if_neg e0, if_neg e0, isw_0, bd_s, bd_s, bl_0]
      exact ⟨0, .inl rfl, rfl, rfl⟩
    rw [if_pos e0, if_pos e0]
    rw [show fX2_wordIs_L20 (g + 6) 0 (g + 5) 1 (nI p) (nI n) fb = (if nI (B (p + 1)) = 111 then fX2_wordIs_L20 (g + 6) 0 (g + 4) 2 (nI p) (nI n) fb else some (.inr 0)) from by
      rw [fX2_wordIs_L20_s, if_neg (show ¬ nI (lenS.getD 0 0) ≤ 1 by decide), show nI p + 1 = nI (p + 1) from nI_add p 1, t_byte _ h (by omega), bd_s, if_pos (show p + 1 < n by omega), ck_at (i := 1) (j := 1) rfl (by decide) (by decide)]
      rfl, show fX8_isWord_L18 (g + 6) (g + 5) 4 99 111 105 110 0 0 1 1 (nI p) tx = (if nI (B (p + 1)) = 111 then fX8_isWord_L18 (g + 6) (g + 4) 4 99 111 105 110 0 0 1 2 (nI p) tx else fX8_isWord_L18 (g + 6) (g + 4) 4 99 111 105 110 0 0 0 2 (nI p) tx) from by
      rw [fX8_isWord_L18_s, if_neg (show ¬ (4 : Int32) ≤ 1 by decide), if_neg (show ¬ (1 : Int32) = 0 by decide), show nI p + 1 = nI (p + 1) from nI_add p 1, ck_nI (by omega) (by decide), nI_clamp (by omega), (h.2 (p + 1) (by omega)).2.2, if_neg (show ¬ (1 : Int32) = 0 by decide), if_pos (show (1 : Int32) = 1 from rfl), lt_e, lt_e]
      rfl]
    by_cases e1 : nI (B (p + 1)) = 111
    case neg =>
      rw [if_neg e1, if_neg e1, isw_0, bd_s, bd_s, bl_0]
      exact ⟨0, .inl rfl, rfl, rfl⟩
    rw [if_pos e1, if_pos e1]
    rw [show fX2_wordIs_L20 (g + 6) 0 (g + 4) 2 (nI p) (nI n) fb = (if nI (B (p + 2)) = 105 then fX2_wordIs_L20 (g + 6) 0 (g + 3) 3 (nI p) (nI n) fb else some (.inr 0)) from by
      rw [fX2_wordIs_L20_s, if_neg (show ¬ nI (lenS.getD 0 0) ≤ 2 by decide), show nI p + 2 = nI (p + 2) from nI_add p 2, t_byte _ h (by omega), bd_s, if_pos (show p + 2 < n by omega), ck_at (i := 2) (j := 2) rfl (by decide) (by decide)]
      rfl, show fX8_isWord_L18 (g + 6) (g + 4) 4 99 111 105 110 0 0 1 2 (nI p) tx = (if nI (B (p + 2)) = 105 then fX8_isWord_L18 (g + 6) (g + 3) 4 99 111 105 110 0 0 1 3 (nI p) tx else fX8_isWord_L18 (g + 6) (g + 3) 4 99 111 105 110 0 0 0 3 (nI p) tx) from by
      rw [fX8_isWord_L18_s, if_neg (show ¬ (4 : Int32) ≤ 2 by decide), if_neg (show ¬ (1 : Int32) = 0 by decide), show nI p + 2 = nI (p + 2) from nI_add p 2, ck_nI (by omega) (by decide), nI_clamp (by omega), (h.2 (p + 2) (by omega)).2.2, if_neg (show ¬ (2 : Int32) = 0 by decide), if_neg (show ¬ (2 : Int32) = 1 by decide), if_pos (show (2 : Int32) = 2 from rfl), lt_e, lt_e]
      rfl]
    by_cases e2 : nI (B (p + 2)) = 105
    case neg =>
      rw [if_neg e2, if_neg e2, isw_0, bd_s, bd_s, bl_0]
      exact ⟨0, .inl rfl, rfl, rfl⟩
    rw [if_pos e2, if_pos e2]
    rw [show fX2_wordIs_L20 (g + 6) 0 (g + 3) 3 (nI p) (nI n) fb = (if nI (B (p + 3)) = 110 then fX2_wordIs_L20 (g + 6) 0 (g + 2) 4 (nI p) (nI n) fb else some (.inr 0)) from by
      rw [fX2_wordIs_L20_s, if_neg (show ¬ nI (lenS.getD 0 0) ≤ 3 by decide), show nI p + 3 = nI (p + 3) from nI_add p 3, t_byte _ h (by omega), bd_s, if_pos (show p + 3 < n by omega), ck_at (i := 3) (j := 3) rfl (by decide) (by decide)]
      rfl, show fX8_isWord_L18 (g + 6) (g + 3) 4 99 111 105 110 0 0 1 3 (nI p) tx = (if nI (B (p + 3)) = 110 then fX8_isWord_L18 (g + 6) (g + 2) 4 99 111 105 110 0 0 1 4 (nI p) tx else fX8_isWord_L18 (g + 6) (g + 2) 4 99 111 105 110 0 0 0 4 (nI p) tx) from by
      rw [fX8_isWord_L18_s, if_neg (show ¬ (4 : Int32) ≤ 3 by decide), if_neg (show ¬ (1 : Int32) = 0 by decide), show nI p + 3 = nI (p + 3) from nI_add p 3, ck_nI (by omega) (by decide), nI_clamp (by omega), (h.2 (p + 3) (by omega)).2.2, if_neg (show ¬ (3 : Int32) = 0 by decide), if_neg (show ¬ (3 : Int32) = 1 by decide), if_neg (show ¬ (3 : Int32) = 2 by decide), if_pos (show (3 : Int32) = 3 from rfl), lt_e, lt_e]
      rfl]
    by_cases e3 : nI (B (p + 3)) = 110
    case neg =>
      rw [if_neg e3, if_neg e3, isw_0, bd_s, bd_s, bl_0]
      exact ⟨0, .inl rfl, rfl, rfl⟩
    rw [if_pos e3, if_pos e3]
    rw [fX2_wordIs_L20_s, if_pos (show nI (lenS.getD 0 0) ≤ 4 by decide), fX8_isWord_L18_s, if_pos (show (4 : Int32) ≤ 4 by decide), bd_s, bd_s, bl_1]
    exact ⟨1, .inr ⟨rfl, by omega⟩, rfl, rfl⟩
  · rw [if_neg (show ¬ nI (q - p) = nI (lenS.getD 0 0) from fun z => ql ((nI_eq (b := 4) (by omega) (by decide)).mp z)), if_neg (show ¬ nI (q - p) = 4 from fun z => ql ((nI_eq (b := 4) (by omega) (by decide)).mp z)), isw_0, bd_s, bl_0]
    exact ⟨0, .inl rfl, rfl, rfl⟩
theorem t_is_column (N : Nat) (hN : 1000 ≤ N) {n : Nat} {B : Nat → Nat} {fb tx : Nat → Int32} (h : TX n B fb tx) {p q : Nat} (hpq : p ≤ q) (hq : q ≤ n) : ∃ r : Int32, (r = 0 ∨ (r = 1 ∧ p + 6 = q)) ∧ fX2_wordIs N (nI q) (nI p) (nI n) fb 1 = some r ∧ fX8_isWord N (nI p) (nI (q - p)) tx 6 99 111 108 117 109 110 = some r := by
  have hn := h.1
  obtain ⟨g, rfl⟩ : ∃ g, N = g + 8 := ⟨N - 8, by omega⟩
  unfold fX2_wordIs fX8_isWord
  rw [s_sub hpq]
  by_cases ql : q - p = 6
  · rw [if_pos (show nI (q - p) = nI (lenS.getD 1 0) from by rw [ql]; rfl), if_pos (show nI (q - p) = 6 from by rw [ql]; rfl)]
    rw [show fX2_wordIs_L20 (g + 8) 1 (g + 8) 0 (nI p) (nI n) fb = (if nI (B (p + 0)) = 99 then fX2_wordIs_L20 (g + 8) 1 (g + 7) 1 (nI p) (nI n) fb else some (.inr 0)) from by
      rw [fX2_wordIs_L20_s, if_neg (show ¬ nI (lenS.getD 1 0) ≤ 0 by decide), show nI p + 0 = nI (p + 0) from nI_add p 0, t_byte _ h (by omega), bd_s, if_pos (show p + 0 < n by omega), ck_at (i := 0) (j := 0) rfl (by decide) (by decide)]
      rfl, show fX8_isWord_L18 (g + 8) (g + 8) 6 99 111 108 117 109 110 1 0 (nI p) tx = (if nI (B (p + 0)) = 99 then fX8_isWord_L18 (g + 8) (g + 7) 6 99 111 108 117 109 110 1 1 (nI p) tx else fX8_isWord_L18 (g + 8) (g + 7) 6 99 111 108 117 109 110 0 1 (nI p) tx) from by
      rw [fX8_isWord_L18_s, if_neg (show ¬ (6 : Int32) ≤ 0 by decide), if_neg (show ¬ (1 : Int32) = 0 by decide), show nI p + 0 = nI (p + 0) from nI_add p 0, ck_nI (by omega) (by decide), nI_clamp (by omega), (h.2 (p + 0) (by omega)).2.2, if_pos (show (0 : Int32) = 0 from rfl), lt_e, lt_e]
      rfl]
    by_cases e0 : nI (B (p + 0)) = 99
    case neg =>
      rw [if_neg e0, if_neg e0, isw_0, bd_s, bd_s, bl_0]
      exact ⟨0, .inl rfl, rfl, rfl⟩
    rw [if_pos e0, if_pos e0]
    rw [show fX2_wordIs_L20 (g + 8) 1 (g + 7) 1 (nI p) (nI n) fb = (if nI (B (p + 1)) = 111 then fX2_wordIs_L20 (g + 8) 1 (g + 6) 2 (nI p) (nI n) fb else some (.inr 0)) from by
      rw [fX2_wordIs_L20_s, if_neg (show ¬ nI (lenS.getD 1 0) ≤ 1 by decide), show nI p + 1 = nI (p + 1) from nI_add p 1, t_byte _ h (by omega), bd_s, if_pos (show p + 1 < n by omega), ck_at (i := 1) (j := 1) rfl (by decide) (by decide)]
      rfl, show fX8_isWord_L18 (g + 8) (g + 7) 6 99 111 108 117 109 110 1 1 (nI p) tx = (if nI (B (p + 1)) = 111 then fX8_isWord_L18 (g + 8) (g + 6) 6 99 111 108 117 109 110 1 2 (nI p) tx else fX8_isWord_L18 (g + 8) (g + 6) 6 99 111 108 117 109 110 0 2 (nI p) tx) from by
      rw [fX8_isWord_L18_s, if_neg (show ¬ (6 : Int32) ≤ 1 by decide), if_neg (show ¬ (1 : Int32) = 0 by decide), show nI p + 1 = nI (p + 1) from nI_add p 1, ck_nI (by omega) (by decide), nI_clamp (by omega), (h.2 (p + 1) (by omega)).2.2, if_neg (show ¬ (1 : Int32) = 0 by decide), if_pos (show (1 : Int32) = 1 from rfl), lt_e, lt_e]
      rfl]
    by_cases e1 : nI (B (p + 1)) = 111
    case neg =>
      rw [if_neg e1, if_neg e1, isw_0, bd_s, bd_s, bl_0]
      exact ⟨0, .inl rfl, rfl, rfl⟩
    rw [if_pos e1, if_pos e1]
    rw [show fX2_wordIs_L20 (g + 8) 1 (g + 6) 2 (nI p) (nI n) fb = (if nI (B (p + 2)) = 108 then fX2_wordIs_L20 (g + 8) 1 (g + 5) 3 (nI p) (nI n) fb else some (.inr 0)) from by
      rw [fX2_wordIs_L20_s, if_neg (show ¬ nI (lenS.getD 1 0) ≤ 2 by decide), show nI p + 2 = nI (p + 2) from nI_add p 2, t_byte _ h (by omega), bd_s, if_pos (show p + 2 < n by omega), ck_at (i := 2) (j := 2) rfl (by decide) (by decide)]
      rfl, show fX8_isWord_L18 (g + 8) (g + 6) 6 99 111 108 117 109 110 1 2 (nI p) tx = (if nI (B (p + 2)) = 108 then fX8_isWord_L18 (g + 8) (g + 5) 6 99 111 108 117 109 110 1 3 (nI p) tx else fX8_isWord_L18 (g + 8) (g + 5) 6 99 111 108 117 109 110 0 3 (nI p) tx) from by
      rw [fX8_isWord_L18_s, if_neg (show ¬ (6 : Int32) ≤ 2 by decide), if_neg (show ¬ (1 : Int32) = 0 by decide), show nI p + 2 = nI (p + 2) from nI_add p 2, ck_nI (by omega) (by decide), nI_clamp (by omega), (h.2 (p + 2) (by omega)).2.2, if_neg (show ¬ (2 : Int32) = 0 by decide), if_neg (show ¬ (2 : Int32) = 1 by decide), if_pos (show (2 : Int32) = 2 from rfl), lt_e, lt_e]
      rfl]
    by_cases e2 : nI (B (p + 2)) = 108
    case neg =>
      rw [if_neg e2, if_neg e2, isw_0, bd_s, bd_s, bl_0]
      exact ⟨0, .inl rfl, rfl, rfl⟩
    rw [if_pos e2, if_pos e2]
    rw [show fX2_wordIs_L20 (g + 8) 1 (g + 5) 3 (nI p) (nI n) fb = (if nI (B (p + 3)) = 117 then fX2_wordIs_L20 (g + 8) 1 (g + 4) 4 (nI p) (nI n) fb else some (.inr 0)) from by
      rw [fX2_wordIs_L20_s, if_neg (show ¬ nI (lenS.getD 1 0) ≤ 3 by decide), show nI p + 3 = nI (p + 3) from nI_add p 3, t_byte _ h (by omega), bd_s, if_pos (show p + 3 < n by omega), ck_at (i := 3) (j := 3) rfl (by decide) (by decide)]
      rfl, show fX8_isWord_L18 (g + 8) (g + 5) 6 99 111 108 117 109 110 1 3 (nI p) tx = (if nI (B (p + 3)) = 117 then fX8_isWord_L18 (g + 8) (g + 4) 6 99 111 108 117 109 110 1 4 (nI p) tx else fX8_isWord_L18 (g + 8) (g + 4) 6 99 111 108 117 109 110 0 4 (nI p) tx) from by
      rw [fX8_isWord_L18_s, if_neg (show ¬ (6 : Int32) ≤ 3 by decide), if_neg (show ¬ (1 : Int32) = 0 by decide), show nI p + 3 = nI (p + 3) from nI_add p 3, ck_nI (by omega) (by decide), nI_clamp (by omega), (h.2 (p + 3) (by omega)).2.2, if_neg (show ¬ (3 : Int32) = 0 by decide), if_neg (show ¬ (3 : Int32) = 1 by decide), if_neg (show ¬ (3 : Int32) = 2 by decide), if_pos (show (3 : Int32) = 3 from rfl), lt_e, lt_e]
      rfl]
    by_cases e3 : nI (B (p + 3)) = 117
    case neg =>
      rw [if_neg e3, if_neg e3, isw_0, bd_s, bd_s, bl_0]
      exact ⟨0, .inl rfl, rfl, rfl⟩
    rw [if_pos e3, if_pos e3]
    rw [show fX2_wordIs_L20 (g + 8) 1 (g + 4) 4 (nI p) (nI n) fb = (if nI (B (p + 4)) = 109 then fX2_wordIs_L20 (g + 8) 1 (g + 3) 5 (nI p) (nI n) fb else some (.inr 0)) from by
      rw [fX2_wordIs_L20_s, if_neg (show ¬ nI (lenS.getD 1 0) ≤ 4 by decide), show nI p + 4 = nI (p + 4) from nI_add p 4, t_byte _ h (by omega), bd_s, if_pos (show p + 4 < n by omega), ck_at (i := 4) (j := 4) rfl (by decide) (by decide)]
      rfl, show fX8_isWord_L18 (g + 8) (g + 4) 6 99 111 108 117 109 110 1 4 (nI p) tx = (if nI (B (p + 4)) = 109 then fX8_isWord_L18 (g + 8) (g + 3) 6 99 111 108 117 109 110 1 5 (nI p) tx else fX8_isWord_L18 (g + 8) (g + 3) 6 99 111 108 117 109 110 0 5 (nI p) tx) from by
      rw [fX8_isWord_L18_s, if_neg (show ¬ (6 : Int32) ≤ 4 by decide), if_neg (show ¬ (1 : Int32) = 0 by decide), show nI p + 4 = nI (p + 4) from nI_add p 4, ck_nI (by omega) (by decide), nI_clamp (by omega), (h.2 (p + 4) (by omega)).2.2, if_neg (show ¬ (4 : Int32) = 0 by decide), if_neg (show ¬ (4 : Int32) = 1 by decide), if_neg (show ¬ (4 : Int32) = 2 by decide), if_neg (show ¬ (4 : Int32) = 3 by decide), if_pos (show (4 : Int32) = 4 from rfl), lt_e, lt_e]
      rfl]
    by_cases e4 : nI (B (p + 4)) = 109
    case neg =>
      rw [if_neg e4, if_neg e4, isw_0, bd_s, bd_s, bl_0]
      exact ⟨0, .inl rfl, rfl, rfl⟩
    rw [if_pos e4, if_pos e4]
    rw [show fX2_wordIs_L20 (g + 8) 1 (g + 3) 5 (nI p) (nI n) fb = (if nI (B (p + 5)) = 110 then fX2_wordIs_L20 (g + 8) 1 (g + 2) 6 (nI p) (nI n) fb else some (.inr 0)) from by
      rw [fX2_wordIs_L20_s, if_neg (show ¬ nI (lenS.getD 1 0) ≤ 5 by decide), show nI p + 5 = nI (p + 5) from nI_add p 5, t_byte _ h (by omega), bd_s, if_pos (show p + 5 < n by omega), ck_at (i := 5) (j := 5) rfl (by decide) (by decide)]
      rfl, show fX8_isWord_L18 (g + 8) (g + 3) 6 99 111 108 117 109 110 1 5 (nI p) tx = (if nI (B (p + 5)) = 110 then fX8_isWord_L18 (g + 8) (g + 2) 6 99 111 108 117 109 110 1 6 (nI p) tx else fX8_isWord_L18 (g + 8) (g + 2) 6 99 111 108 117 109 110 0 6 (nI p) tx) from by
      rw [fX8_isWord_L18_s, if_neg (show ¬ (6 : Int32) ≤ 5 by decide), if_neg (show ¬ (1 : Int32) = 0 by decide), show nI p + 5 = nI (p + 5) from nI_add p 5, ck_nI (by omega) (by decide), nI_clamp (by omega), (h.2 (p + 5) (by omega)).2.2, if_neg (show ¬ (5 : Int32) = 0 by decide), if_neg (show ¬ (5 : Int32) = 1 by decide), if_neg (show ¬ (5 : Int32) = 2 by decide), if_neg (show ¬ (5 : Int32) = 3 by decide), if_neg (show ¬ (5 : Int32) = 4 by decide), lt_e, lt_e]
      rfl]
    by_cases e5 : nI (B (p + 5)) = 110
    case neg =>
      rw [if_neg e5, if_neg e5, isw_0, bd_s, bd_s, bl_0]
      exact ⟨0, .inl rfl, rfl, rfl⟩
    rw [if_pos e5, if_pos e5]
    rw [fX2_wordIs_L20_s, if_pos (show nI (lenS.getD 1 0) ≤ 6 by decide), fX8_isWord_L18_s, if_pos (show (6 : Int32) ≤ 6 by decide), bd_s, bd_s, bl_1]
    exact ⟨1, .inr ⟨rfl, by omega⟩, rfl, rfl⟩
  · rw [if_neg (show ¬ nI (q - p) = nI (lenS.getD 1 0) from fun z => ql ((nI_eq (b := 6) (by omega) (by decide)).mp z)), if_neg (show ¬ nI (q - p) = 6 from fun z => ql ((nI_eq (b := 6) (by omega) (by decide)).mp z)), isw_0, bd_s, bl_0]
    exact ⟨0, .inl rfl, rfl, rfl⟩
theorem t_is_slug (N : Nat) (hN : 1000 ≤ N) {n : Nat} {B : Nat → Nat} {fb tx : Nat → Int32} (h : TX n B fb tx) {p q : Nat} (hpq : p ≤ q) (hq : q ≤ n) : ∃ r : Int32, (r = 0 ∨ (r = 1 ∧ p + 4 = q)) ∧ fX2_wordIs N (nI q) (nI p) (nI n) fb 2 = some r ∧ fX8_isWord N (nI p) (nI (q - p)) tx 4 115 108 117 103 0 0 = some r := by
  have hn := h.1
  obtain ⟨g, rfl⟩ : ∃ g, N = g + 6 := ⟨N - 6, by omega⟩
  unfold fX2_wordIs fX8_isWord
  rw [s_sub hpq]
  by_cases ql : q - p = 4
  · rw [if_pos (show nI (q - p) = nI (lenS.getD 2 0) from by rw [ql]; rfl), if_pos (show nI (q - p) = 4 from by rw [ql]; rfl)]
    rw [show fX2_wordIs_L20 (g + 6) 2 (g + 6) 0 (nI p) (nI n) fb = (if nI (B (p + 0)) = 115 then fX2_wordIs_L20 (g + 6) 2 (g + 5) 1 (nI p) (nI n) fb else some (.inr 0)) from by
      rw [fX2_wordIs_L20_s, if_neg (show ¬ nI (lenS.getD 2 0) ≤ 0 by decide), show nI p + 0 = nI (p + 0) from nI_add p 0, t_byte _ h (by omega), bd_s, if_pos (show p + 0 < n by omega), ck_at (i := 0) (j := 0) rfl (by decide) (by decide)]
      rfl, show fX8_isWord_L18 (g + 6) (g + 6) 4 115 108 117 103 0 0 1 0 (nI p) tx = (if nI (B (p + 0)) = 115 then fX8_isWord_L18 (g + 6) (g + 5) 4 115 108 117 103 0 0 1 1 (nI p) tx else fX8_isWord_L18 (g + 6) (g + 5) 4 115 108 117 103 0 0 0 1 (nI p) tx) from by
      rw [fX8_isWord_L18_s, if_neg (show ¬ (4 : Int32) ≤ 0 by decide), if_neg (show ¬ (1 : Int32) = 0 by decide), show nI p + 0 = nI (p + 0) from nI_add p 0, ck_nI (by omega) (by decide), nI_clamp (by omega), (h.2 (p + 0) (by omega)).2.2, if_pos (show (0 : Int32) = 0 from rfl), lt_e, lt_e]
      rfl]
    by_cases e0 : nI (B (p + 0)) = 115
    case neg =>
      rw [if_neg e0, if_neg e0, isw_0, bd_s, bd_s, bl_0]
      exact ⟨0, .inl rfl, rfl, rfl⟩
    rw [if_pos e0, if_pos e0]
    rw [show fX2_wordIs_L20 (g + 6) 2 (g + 5) 1 (nI p) (nI n) fb = (if nI (B (p + 1)) = 108 then fX2_wordIs_L20 (g + 6) 2 (g + 4) 2 (nI p) (nI n) fb else some (.inr 0)) from by
      rw [fX2_wordIs_L20_s, if_neg (show ¬ nI (lenS.getD 2 0) ≤ 1 by decide), show nI p + 1 = nI (p + 1) from nI_add p 1, t_byte _ h (by omega), bd_s, if_pos (show p + 1 < n by omega), ck_at (i := 1) (j := 1) rfl (by decide) (by decide)]
      rfl, show fX8_isWord_L18 (g + 6) (g + 5) 4 115 108 117 103 0 0 1 1 (nI p) tx = (if nI (B (p + 1)) = 108 then fX8_isWord_L18 (g + 6) (g + 4) 4 115 108 117 103 0 0 1 2 (nI p) tx else fX8_isWord_L18 (g + 6) (g + 4) 4 115 108 117 103 0 0 0 2 (nI p) tx) from by
      rw [fX8_isWord_L18_s, if_neg (show ¬ (4 : Int32) ≤ 1 by decide), if_neg (show ¬ (1 : Int32) = 0 by decide), show nI p + 1 = nI (p + 1) from nI_add p 1, ck_nI (by omega) (by decide), nI_clamp (by omega), (h.2 (p + 1) (by omega)).2.2, if_neg (show ¬ (1 : Int32) = 0 by decide), if_pos (show (1 : Int32) = 1 from rfl), lt_e, lt_e]
      rfl]
    by_cases e1 : nI (B (p + 1)) = 108
    case neg =>
      rw [if_neg e1, if_neg e1, isw_0, bd_s, bd_s, bl_0]
      exact ⟨0, .inl rfl, rfl, rfl⟩
    rw [if_pos e1, if_pos e1]
    rw [show fX2_wordIs_L20 (g + 6) 2 (g + 4) 2 (nI p) (nI n) fb = (if nI (B (p + 2)) = 117 then fX2_wordIs_L20 (g + 6) 2 (g + 3) 3 (nI p) (nI n) fb else some (.inr 0)) from by
      rw [fX2_wordIs_L20_s, if_neg (show ¬ nI (lenS.getD 2 0) ≤ 2 by decide), show nI p + 2 = nI (p + 2) from nI_add p 2, t_byte _ h (by omega), bd_s, if_pos (show p + 2 < n by omega), ck_at (i := 2) (j := 2) rfl (by decide) (by decide)]
      rfl, show fX8_isWord_L18 (g + 6) (g + 4) 4 115 108 117 103 0 0 1 2 (nI p) tx = (if nI (B (p + 2)) = 117 then fX8_isWord_L18 (g + 6) (g + 3) 4 115 108 117 103 0 0 1 3 (nI p) tx else fX8_isWord_L18 (g + 6) (g + 3) 4 115 108 117 103 0 0 0 3 (nI p) tx) from by
      rw [fX8_isWord_L18_s, if_neg (show ¬ (4 : Int32) ≤ 2 by decide), if_neg (show ¬ (1 : Int32) = 0 by decide), show nI p + 2 = nI (p + 2) from nI_add p 2, ck_nI (by omega) (by decide), nI_clamp (by omega), (h.2 (p + 2) (by omega)).2.2, if_neg (show ¬ (2 : Int32) = 0 by decide), if_neg (show ¬ (2 : Int32) = 1 by decide), if_pos (show (2 : Int32) = 2 from rfl), lt_e, lt_e]
      rfl]
    by_cases e2 : nI (B (p + 2)) = 117
    case neg =>
      rw [if_neg e2, if_neg e2, isw_0, bd_s, bd_s, bl_0]
      exact ⟨0, .inl rfl, rfl, rfl⟩
    rw [if_pos e2, if_pos e2]
    rw [show fX2_wordIs_L20 (g + 6) 2 (g + 3) 3 (nI p) (nI n) fb = (if nI (B (p + 3)) = 103 then fX2_wordIs_L20 (g + 6) 2 (g + 2) 4 (nI p) (nI n) fb else some (.inr 0)) from by
      rw [fX2_wordIs_L20_s, if_neg (show ¬ nI (lenS.getD 2 0) ≤ 3 by decide), show nI p + 3 = nI (p + 3) from nI_add p 3, t_byte _ h (by omega), bd_s, if_pos (show p + 3 < n by omega), ck_at (i := 3) (j := 3) rfl (by decide) (by decide)]
      rfl, show fX8_isWord_L18 (g + 6) (g + 3) 4 115 108 117 103 0 0 1 3 (nI p) tx = (if nI (B (p + 3)) = 103 then fX8_isWord_L18 (g + 6) (g + 2) 4 115 108 117 103 0 0 1 4 (nI p) tx else fX8_isWord_L18 (g + 6) (g + 2) 4 115 108 117 103 0 0 0 4 (nI p) tx) from by
      rw [fX8_isWord_L18_s, if_neg (show ¬ (4 : Int32) ≤ 3 by decide), if_neg (show ¬ (1 : Int32) = 0 by decide), show nI p + 3 = nI (p + 3) from nI_add p 3, ck_nI (by omega) (by decide), nI_clamp (by omega), (h.2 (p + 3) (by omega)).2.2, if_neg (show ¬ (3 : Int32) = 0 by decide), if_neg (show ¬ (3 : Int32) = 1 by decide), if_neg (show ¬ (3 : Int32) = 2 by decide), if_pos (show (3 : Int32) = 3 from rfl), lt_e, lt_e]
      rfl]
    by_cases e3 : nI (B (p + 3)) = 103
    case neg =>
      rw [if_neg e3, if_neg e3, isw_0, bd_s, bd_s, bl_0]
      exact ⟨0, .inl rfl, rfl, rfl⟩
    rw [if_pos e3, if_pos e3]
    rw [fX2_wordIs_L20_s, if_pos (show nI (lenS.getD 2 0) ≤ 4 by decide), fX8_isWord_L18_s, if_pos (show (4 : Int32) ≤ 4 by decide), bd_s, bd_s, bl_1]
    exact ⟨1, .inr ⟨rfl, by omega⟩, rfl, rfl⟩
  · rw [if_neg (show ¬ nI (q - p) = nI (lenS.getD 2 0) from fun z => ql ((nI_eq (b := 4) (by omega) (by decide)).mp z)), if_neg (show ¬ nI (q - p) = 4 from fun z => ql ((nI_eq (b := 4) (by omega) (by decide)).mp z)), isw_0, bd_s, bl_0]
    exact ⟨0, .inl rfl, rfl, rfl⟩
theorem t_is_kick (N : Nat) (hN : 1000 ≤ N) {n : Nat} {B : Nat → Nat} {fb tx : Nat → Int32} (h : TX n B fb tx) {p q : Nat} (hpq : p ≤ q) (hq : q ≤ n) : ∃ r : Int32, (r = 0 ∨ (r = 1 ∧ p + 4 = q)) ∧ fX2_wordIs N (nI q) (nI p) (nI n) fb 3 = some r ∧ fX8_isWord N (nI p) (nI (q - p)) tx 4 107 105 99 107 0 0 = some r := by
  have hn := h.1
  obtain ⟨g, rfl⟩ : ∃ g, N = g + 6 := ⟨N - 6, by omega⟩
  unfold fX2_wordIs fX8_isWord
  rw [s_sub hpq]
  by_cases ql : q - p = 4
  · rw [if_pos (show nI (q - p) = nI (lenS.getD 3 0) from by rw [ql]; rfl), if_pos (show nI (q - p) = 4 from by rw [ql]; rfl)]
    rw [show fX2_wordIs_L20 (g + 6) 3 (g + 6) 0 (nI p) (nI n) fb = (if nI (B (p + 0)) = 107 then fX2_wordIs_L20 (g + 6) 3 (g + 5) 1 (nI p) (nI n) fb else some (.inr 0)) from by
      rw [fX2_wordIs_L20_s, if_neg (show ¬ nI (lenS.getD 3 0) ≤ 0 by decide), show nI p + 0 = nI (p + 0) from nI_add p 0, t_byte _ h (by omega), bd_s, if_pos (show p + 0 < n by omega), ck_at (i := 0) (j := 0) rfl (by decide) (by decide)]
      rfl, show fX8_isWord_L18 (g + 6) (g + 6) 4 107 105 99 107 0 0 1 0 (nI p) tx = (if nI (B (p + 0)) = 107 then fX8_isWord_L18 (g + 6) (g + 5) 4 107 105 99 107 0 0 1 1 (nI p) tx else fX8_isWord_L18 (g + 6) (g + 5) 4 107 105 99 107 0 0 0 1 (nI p) tx) from by
      rw [fX8_isWord_L18_s, if_neg (show ¬ (4 : Int32) ≤ 0 by decide), if_neg (show ¬ (1 : Int32) = 0 by decide), show nI p + 0 = nI (p + 0) from nI_add p 0, ck_nI (by omega) (by decide), nI_clamp (by omega), (h.2 (p + 0) (by omega)).2.2, if_pos (show (0 : Int32) = 0 from rfl), lt_e, lt_e]
      rfl]
    by_cases e0 : nI (B (p + 0)) = 107
    case neg =>
      rw [if_neg e0, if_neg e0, isw_0, bd_s, bd_s, bl_0]
      exact ⟨0, .inl rfl, rfl, rfl⟩
    rw [if_pos e0, if_pos e0]
    rw [show fX2_wordIs_L20 (g + 6) 3 (g + 5) 1 (nI p) (nI n) fb = (if nI (B (p + 1)) = 105 then fX2_wordIs_L20 (g + 6) 3 (g + 4) 2 (nI p) (nI n) fb else some (.inr 0)) from by
      rw [fX2_wordIs_L20_s, if_neg (show ¬ nI (lenS.getD 3 0) ≤ 1 by decide), show nI p + 1 = nI (p + 1) from nI_add p 1, t_byte _ h (by omega), bd_s, if_pos (show p + 1 < n by omega), ck_at (i := 1) (j := 1) rfl (by decide) (by decide)]
      rfl, show fX8_isWord_L18 (g + 6) (g + 5) 4 107 105 99 107 0 0 1 1 (nI p) tx = (if nI (B (p + 1)) = 105 then fX8_isWord_L18 (g + 6) (g + 4) 4 107 105 99 107 0 0 1 2 (nI p) tx else fX8_isWord_L18 (g + 6) (g + 4) 4 107 105 99 107 0 0 0 2 (nI p) tx) from by
      rw [fX8_isWord_L18_s, if_neg (show ¬ (4 : Int32) ≤ 1 by decide), if_neg (show ¬ (1 : Int32) = 0 by decide), show nI p + 1 = nI (p + 1) from nI_add p 1, ck_nI (by omega) (by decide), nI_clamp (by omega), (h.2 (p + 1) (by omega)).2.2, if_neg (show ¬ (1 : Int32) = 0 by decide), if_pos (show (1 : Int32) = 1 from rfl), lt_e, lt_e]
      rfl]
    by_cases e1 : nI (B (p + 1)) = 105
    case neg =>
      rw [if_neg e1, if_neg e1, isw_0, bd_s, bd_s, bl_0]
      exact ⟨0, .inl rfl, rfl, rfl⟩
    rw [if_pos e1, if_pos e1]
    rw [show fX2_wordIs_L20 (g + 6) 3 (g + 4) 2 (nI p) (nI n) fb = (if nI (B (p + 2)) = 99 then fX2_wordIs_L20 (g + 6) 3 (g + 3) 3 (nI p) (nI n) fb else some (.inr 0)) from by
      rw [fX2_wordIs_L20_s, if_neg (show ¬ nI (lenS.getD 3 0) ≤ 2 by decide), show nI p + 2 = nI (p + 2) from nI_add p 2, t_byte _ h (by omega), bd_s, if_pos (show p + 2 < n by omega), ck_at (i := 2) (j := 2) rfl (by decide) (by decide)]
      rfl, show fX8_isWord_L18 (g + 6) (g + 4) 4 107 105 99 107 0 0 1 2 (nI p) tx = (if nI (B (p + 2)) = 99 then fX8_isWord_L18 (g + 6) (g + 3) 4 107 105 99 107 0 0 1 3 (nI p) tx else fX8_isWord_L18 (g + 6) (g + 3) 4 107 105 99 107 0 0 0 3 (nI p) tx) from by
      rw [fX8_isWord_L18_s, if_neg (show ¬ (4 : Int32) ≤ 2 by decide), if_neg (show ¬ (1 : Int32) = 0 by decide), show nI p + 2 = nI (p + 2) from nI_add p 2, ck_nI (by omega) (by decide), nI_clamp (by omega), (h.2 (p + 2) (by omega)).2.2, if_neg (show ¬ (2 : Int32) = 0 by decide), if_neg (show ¬ (2 : Int32) = 1 by decide), if_pos (show (2 : Int32) = 2 from rfl), lt_e, lt_e]
      rfl]
    by_cases e2 : nI (B (p + 2)) = 99
    case neg =>
      rw [if_neg e2, if_neg e2, isw_0, bd_s, bd_s, bl_0]
      exact ⟨0, .inl rfl, rfl, rfl⟩
    rw [if_pos e2, if_pos e2]
    rw [show fX2_wordIs_L20 (g + 6) 3 (g + 3) 3 (nI p) (nI n) fb = (if nI (B (p + 3)) = 107 then fX2_wordIs_L20 (g + 6) 3 (g + 2) 4 (nI p) (nI n) fb else some (.inr 0)) from by
      rw [fX2_wordIs_L20_s, if_neg (show ¬ nI (lenS.getD 3 0) ≤ 3 by decide), show nI p + 3 = nI (p + 3) from nI_add p 3, t_byte _ h (by omega), bd_s, if_pos (show p + 3 < n by omega), ck_at (i := 3) (j := 3) rfl (by decide) (by decide)]
      rfl, show fX8_isWord_L18 (g + 6) (g + 3) 4 107 105 99 107 0 0 1 3 (nI p) tx = (if nI (B (p + 3)) = 107 then fX8_isWord_L18 (g + 6) (g + 2) 4 107 105 99 107 0 0 1 4 (nI p) tx else fX8_isWord_L18 (g + 6) (g + 2) 4 107 105 99 107 0 0 0 4 (nI p) tx) from by
      rw [fX8_isWord_L18_s, if_neg (show ¬ (4 : Int32) ≤ 3 by decide), if_neg (show ¬ (1 : Int32) = 0 by decide), show nI p + 3 = nI (p + 3) from nI_add p 3, ck_nI (by omega) (by decide), nI_clamp (by omega), (h.2 (p + 3) (by omega)).2.2, if_neg (show ¬ (3 : Int32) = 0 by decide), if_neg (show ¬ (3 : Int32) = 1 by decide), if_neg (show ¬ (3 : Int32) = 2 by decide), if_pos (show (3 : Int32) = 3 from rfl), lt_e, lt_e]
      rfl]
    by_cases e3 : nI (B (p + 3)) = 107
    case neg =>
      rw [if_neg e3, if_neg e3, isw_0, bd_s, bd_s, bl_0]
      exact ⟨0, .inl rfl, rfl, rfl⟩
    rw [if_pos e3, if_pos e3]
    rw [fX2_wordIs_L20_s, if_pos (show nI (lenS.getD 3 0) ≤ 4 by decide), fX8_isWord_L18_s, if_pos (show (4 : Int32) ≤ 4 by decide), bd_s, bd_s, bl_1]
    exact ⟨1, .inr ⟨rfl, by omega⟩, rfl, rfl⟩
  · rw [if_neg (show ¬ nI (q - p) = nI (lenS.getD 3 0) from fun z => ql ((nI_eq (b := 4) (by omega) (by decide)).mp z)), if_neg (show ¬ nI (q - p) = 4 from fun z => ql ((nI_eq (b := 4) (by omega) (by decide)).mp z)), isw_0, bd_s, bl_0]
    exact ⟨0, .inl rfl, rfl, rfl⟩
/-! numbers -/
def NR (j a b : Nat) : Prop := a ≤ 1000 ∧ b ≤ 999999 ∧ (j = 0 → b = 0) ∧ (j ≤ 1 → b < 10) ∧ (j ≤ 2 → b < 100) ∧ (j ≤ 3 → b < 1000 ∧ a = b)
theorem t_numL (N : Nat) {n : Nat} {B : Nat → Nat} {fb tx : Nat → Int32} (h : TX n B fb tx) (lo hi : Int32) (p : Nat) : ∀ (d i f a b : Nat), i + d = n → d < f → p ≤ i → NR (i - p) a b → ∃ q v3 v4, i ≤ q ∧ q ≤ n ∧ NR (q - p) v3 v4 ∧ fX2_takeNumber_L23 N f lo hi (nI a) (nI i) (nI n) fb = some (nI v3, nI q) ∧ fX8_takeNumber_L50 N f lo hi (nI b) (nI n) (nI i) tx = some (nI v4, nI q) ∧ (i < n → 48 ≤ B i ∧ B i ≤ 57 → i < q) ∧ (¬ (i < n ∧ 48 ≤ B i ∧ B i ≤ 57) → q = i ∧ v3 = a) := by
  have hn := h.1
  intro d
  induction d with
  | zero =>
    intro i f a b hi hf hp hr
    obtain ⟨f, rfl⟩ : ∃ g, f = g + 1 := ⟨f - 1, by omega⟩
    refine ⟨i, a, b, Nat.le_refl _, by omega, hr, ?_, ?_, fun z => by omega, fun _ => ⟨rfl, rfl⟩⟩
    · rw [fX2_takeNumber_L23_s, if_pos (nI_le (by omega) (by omega))]
    · rw [fX8_takeNumber_L50_s, if_pos (nI_le (by omega) (by omega))]
  | succ d ih =>
    intro i f a b hi2 hf hp hr
    obtain ⟨f, rfl⟩ : ∃ g, f = g + 1 := ⟨f - 1, by omega⟩
    obtain ⟨-, -, l1, l2⟩ := t_letter N h (i := i) (by omega)
    have hB := (h.2 i (by omega)).1
    rw [fX2_takeNumber_L23_s, if_neg (nI_ge (by omega) (by omega)), l1, bd_s, fX8_takeNumber_L50_s, if_neg (nI_ge (by omega) (by omega)), ck_nI (by omega) (by decide), nI_clamp (by omega), l2, bd_s]
    by_cases q : 48 ≤ B i ∧ B i ≤ 57
    · obtain ⟨r1, r2, r3, r4, r5, r6⟩ := hr
      have hr' : NR (i + 1 - p) (min 1000 (10 * a + B i - 48)) (if b ≤ 99999 then 10 * b + B i - 48 else b) := by
        by_cases z : b ≤ 99999
        · rw [if_pos z]
          refine ⟨by omega, by omega, fun y => by omega, fun y => by omega, fun y => by omega, fun y => ?_⟩
          have := r6 (by omega)
          omega
        · rw [if_neg z]
          refine ⟨by omega, by omega, fun y => by omega, fun y => by omega, fun y => by omega, fun y => ?_⟩
          have := r5 (by omega)
          omega
      obtain ⟨q1, v3, v4, h1, h2, h3, h4, h5, -, -⟩ := ih (i + 1) f (min 1000 (10 * a + B i - 48)) (if b ≤ 99999 then 10 * b + B i - 48 else b) (by omega) (by omega) (by omega) hr'
      refine ⟨q1, v3, v4, by omega, h2, h3, ?_, ?_, fun _ _ => by omega, fun z => absurd ⟨by omega, q.1, q.2⟩ z⟩
      · have e1 : (10 : Int32) * nI a + nI (B i) - 48 = nI (10 * a + B i - 48) := by
          rw [show (10 : Int32) * nI a = nI (10 * a) from s_mul 10 a, nI_add]
          exact s_sub (b := 48) (by omega)
        rw [if_pos q, if_neg (show ¬ (1 : Int32) = 0 by decide), t_byte N h (by omega), bd_s, if_pos (show i < n by omega), e1, lt_e, lt_e, nI_1, ← h4]
        congr 1
        by_cases z : 10 * a + B i - 48 < 1000
        · rw [if_pos (show nI (10 * a + B i - 48) < 1000 from (s_lt (b := 1000) (by omega) (by decide)).mpr z), Nat.min_eq_right (by omega)]
        · rw [if_neg (show ¬ nI (10 * a + B i - 48) < 1000 from fun y => z ((s_lt (b := 1000) (by omega) (by decide)).mp y)), Nat.min_eq_left (by omega)]
          rfl
      · rw [if_pos q, if_neg (show ¬ (1 : Int32) = 0 by decide), (h.2 i (by omega)).2.2]
        by_cases z : b ≤ 99999
        · have e1 : (10 : Int32) * nI b + nI (B i) - 48 = nI (10 * b + B i - 48) := by
            rw [show (10 : Int32) * nI b = nI (10 * b) from s_mul 10 b, nI_add]
            exact s_sub (b := 48) (by omega)
          rw [if_pos z] at h5
          rw [if_pos (show nI b ≤ 99999 from (s_le (b := 99999) (by omega) (by decide)).mpr z), e1, lt_e, lt_e, nI_1, h5]
        · rw [if_neg z] at h5
          rw [if_neg (show ¬ nI b ≤ 99999 from fun y => z ((s_le (b := 99999) (by omega) (by decide)).mp y)), lt_e, nI_1, h5]
    · rw [if_neg q, if_pos (show (0 : Int32) = 0 from rfl), if_pos (show (0 : Int32) = 0 from rfl)]
      exact ⟨i, a, b, Nat.le_refl _, by omega, hr, rfl, rfl, fun _ z => absurd z q, fun _ => ⟨rfl, rfl⟩⟩
theorem xnum_f (N : Nat) {fl : Int32} (hf : ¬ fl = 0) (a t fa n lo hi : Int32) (fb : Nat → Int32) : fX2_takeNumber N a t fl fa n fb lo hi = some (0, a, t, fl, fa) := by
  unfold fX2_takeNumber
  rw [if_neg hf]
theorem mnum_f (N : Nat) {fl : Int32} (hf : ¬ fl ≤ 0) (n a t fa lo hi : Int32) (tx : Nat → Int32) : fX8_takeNumber N n a t fl fa tx lo hi = some (0, a, t, fl, fa) := by
  unfold fX8_takeNumber
  rw [if_neg hf]
theorem want_1 (N : Nat) (fa k p : Int32) : fX8_want N 0 fa 1 k p = some (1, 0, fa) := by
  unfold fX8_want
  rw [if_neg (by decide), if_pos rfl]
theorem want_0 (N : Nat) {k : Int32} (hk : ¬ k = 0) (fa p : Int32) : fX8_want N 0 fa 0 k p = some (0, k, p) := by
  unfold fX8_want
  rw [if_pos rfl, if_pos rfl, if_neg hk]
theorem fail_0 (N : Nat) (fa k p : Int32) : fX2_fail N 0 fa k p = some (k, p) := by
  unfold fX2_fail
  rw [if_pos rfl]
theorem fail_f (N : Nat) {fl : Int32} (hf : ¬ fl = 0) (fa k p : Int32) : fX2_fail N fl fa k p = some (fl, fa) := by
  unfold fX2_fail
  rw [if_neg hf]
theorem t_num (N : Nat) (hN : 1000 ≤ N) {n : Nat} {B : Nat → Nat} {fb tx : Nat → Int32} (h : TX n B fb tx) {i : Nat} (hi : i ≤ n) (tok first fa lo hi2 : Int32) : ∃ (vX p q : Nat) (vM : Int32), i ≤ p ∧ p ≤ q ∧ q ≤ n ∧ ((fX2_takeNumber N (nI i) tok 0 fa (nI n) fb lo hi2 = some (nI vX, nI q, nI p, 0, fa) ∧ fX8_takeNumber N (nI n) (nI i) first 0 fa tx lo hi2 = some (nI vX, nI q, nI p, 0, fa) ∧ vX < 1000 ∧ lo.toInt ≤ (vX : Int) ∧ (vX : Int) ≤ hi2.toInt) ∨ (∃ fl : Int32, (fl = 1 ∨ fl = 2) ∧ fX2_takeNumber N (nI i) tok 0 fa (nI n) fb lo hi2 = some (nI vX, nI q, nI p, fl, nI p) ∧ fX8_takeNumber N (nI n) (nI i) first 0 fa tx lo hi2 = some (vM, nI q, nI p, fl, nI p))) := by
  have hn := h.1
  obtain ⟨p, h1, h2, h3, h4, -, -⟩ := t_here N hN h hi
  obtain ⟨q, v3, v4, k1, k2, k3, k4, k5, k6, k7⟩ := t_numL N h lo hi2 p (n - p) p N 0 0 (by omega) (by omega) (Nat.le_refl _) (by rw [Nat.sub_self]; exact ⟨by omega, by omega, fun _ => rfl, fun _ => by omega, fun _ => by omega, fun _ => ⟨by omega, rfl⟩⟩)
  have k4 : fX2_takeNumber_L23 N N lo hi2 0 (nI p) (nI n) fb = some (nI v3, nI q) := k4
  have k5 : fX8_takeNumber_L50 N N lo hi2 0 (nI n) (nI p) tx = some (nI v4, nI q) := k5
  unfold fX2_takeNumber fX8_takeNumber
  rw [if_pos (show (0 : Int32) = 0 from rfl), if_pos (show (0 : Int32) ≤ 0 by decide), h3, bd_s, k4, bd_s, h4, bd_s]
  dsimp only
  by_cases dg : p < n ∧ 48 ≤ B p ∧ B p ≤ 57
  · have hpq := k6 dg.1 dg.2
    have hin : fX8_in N (Int32.toInt64 (if p < n then nI (B p) else -1)) 48 57 = some 1 := by
      obtain ⟨-, -, -, l2⟩ := t_letter N h dg.1
      rw [(h.2 p dg.1).2.2, if_pos dg.2] at l2
      rw [if_pos dg.1, l2]
    have hne : ¬ nI q = nI p := fun z => by have := (nI_eq (by omega) (by omega)).mp z; omega
    rw [hin, bd_s, want_1, bd_s]
    dsimp only
    rw [if_neg (show ¬ (1 : Int32) = 0 by decide), k5, bd_s]
    dsimp only
    rw [if_neg hne, s_sub k1]
    obtain ⟨n1, n2, -, -, -, n6⟩ := k3
    by_cases q3 : 3 < q - p
    · refine ⟨v3, p, q, nI v4, h1, k1, k2, .inr ⟨2, .inr rfl, ?_, ?_⟩⟩
      · rw [if_pos (show (3 : Int32) < nI (q - p) from (s_lt (a := 3) (by decide) (by omega)).mpr q3), fail_0, bd_s]
      · rw [if_pos (show (4 : Int32) ≤ nI (q - p) from (s_le (a := 4) (by decide) (by omega)).mpr (by omega)), want_0 N (by decide), bd_s]
    · obtain ⟨n7, rfl⟩ := n6 (by omega)
      rw [if_neg (show ¬ (3 : Int32) < nI (q - p) from fun z => q3 ((s_lt (a := 3) (by decide) (by omega)).mp z)), if_neg (show ¬ (4 : Int32) ≤ nI (q - p) from fun z => by have := (s_le (a := 4) (by decide) (by omega)).mp z; omega), p_in, bd_s, wide, wide, wide, nIt _ (by omega)]
      by_cases ql : nI v3 < lo
      · have ql2 := (lt32 _ _).mp ql
        rw [nIt _ (by omega)] at ql2
        refine ⟨v3, p, q, nI v3, h1, k1, k2, .inr ⟨2, .inr rfl, ?_, ?_⟩⟩
        · rw [if_pos ql, fail_0, bd_s]
        · rw [if_neg (show ¬ (lo.toInt ≤ (v3 : Int) ∧ (v3 : Int) ≤ hi2.toInt) by omega), if_pos rfl, want_0 N (by decide), bd_s]
      · have ql2 : ¬ (v3 : Int) < lo.toInt := fun z => ql ((lt32 _ _).mpr (by rw [nIt _ (by omega)]; exact z))
        rw [if_neg ql]
        by_cases qh : nI v3 ≤ hi2
        · have qh2 := (le32 _ _).mp qh
          rw [nIt _ (by omega)] at qh2
          refine ⟨v3, p, q, 0, h1, k1, k2, .inl ⟨?_, ?_, n7, by omega, qh2⟩⟩
          · rw [if_pos qh]
          · rw [if_pos (show lo.toInt ≤ (v3 : Int) ∧ (v3 : Int) ≤ hi2.toInt by omega), if_neg (show ¬ (1 : Int32) = 0 by decide), want_1, bd_s]
        · have qh2 : ¬ (v3 : Int) ≤ hi2.toInt := fun z => qh ((le32 _ _).mpr (by rw [nIt _ (by omega)]; exact z))
          refine ⟨v3, p, q, nI v3, h1, k1, k2, .inr ⟨2, .inr rfl, ?_, ?_⟩⟩
          · rw [if_neg qh, fail_0, bd_s]
          · rw [if_neg (show ¬ (lo.toInt ≤ (v3 : Int) ∧ (v3 : Int) ≤ hi2.toInt) by omega), if_pos rfl, want_0 N (by decide), bd_s]
  · obtain ⟨rfl, rfl⟩ := k7 dg
    have hin : fX8_in N (Int32.toInt64 (if q < n then nI (B q) else -1)) 48 57 = some 0 := by
      by_cases z : q < n
      · obtain ⟨-, -, -, l2⟩ := t_letter N h z
        rw [(h.2 q z).2.2, if_neg (fun y => dg ⟨z, y⟩)] at l2
        rw [if_pos z, l2]
      · rw [if_neg z, p_in]
        rfl
    refine ⟨0, q, q, 0, h1, Nat.le_refl _, h2, .inr ⟨1, .inl rfl, ?_, ?_⟩⟩
    · rw [if_pos rfl, fail_0, bd_s]
    · rw [hin, bd_s, want_0 N (by decide), bd_s]
      dsimp only
      rw [if_pos rfl]
/-- a clause's end -/
theorem t_end (N : Nat) (hN : 1000 ≤ N) {n : Nat} {B : Nat → Nat} {fb tx : Nat → Int32} (h : TX n B fb tx) {i : Nat} (hi : i ≤ n) (fa : Int32) : ∃ p, i ≤ p ∧ p ≤ n ∧ fX8_here N (nI n) (nI i) tx = some ((if p < n then nI (B p) else -1), nI p) ∧ ((p < n ∧ B p = 59 ∧ fX2_takeEnd N (nI i) 0 fa (nI n) fb = some (nI (p + 1), 0, fa)) ∨ (¬ (p < n ∧ B p = 59) ∧ fX2_takeEnd N (nI i) 0 fa (nI n) fb = some (nI (p + 1), 1, nI p))) := by
  have hn := h.1
  obtain ⟨p, h1, h2, h3, h4, -, -⟩ := t_here N hN h hi
  refine ⟨p, h1, h2, h4, ?_⟩
  unfold fX2_takeEnd
  rw [if_pos (show (0 : Int32) = 0 from rfl), h3, bd_s, t_byte N h (by omega), bd_s]
  by_cases q : p < n
  · have hb := t_b32 h (i := p) (c := 59) q (by decide)
    rw [if_pos q]
    by_cases q2 : B p = 59
    · left
      rw [if_pos (show nI (B p) = 59 from hb.mpr q2), lt_e, nI_1]
      exact ⟨q, q2, rfl⟩
    · right
      rw [if_neg (show ¬ nI (B p) = 59 from fun z => q2 (hb.mp z)), fail_0, bd_s]
      dsimp only
      rw [lt_e, nI_1]
      exact ⟨fun z => q2 z.2, rfl⟩
  · right
    rw [if_neg q, if_neg (show ¬ (-1 : Int32) = 59 by decide), fail_0, bd_s]
    dsimp only
    rw [lt_e, nI_1]
    exact ⟨fun z => q z.1, rfl⟩
theorem xend_f (N : Nat) {fl : Int32} (hf : ¬ fl = 0) (a fa n : Int32) (fb : Nat → Int32) : fX2_takeEnd N a fl fa n fb = some (a, fl, fa) := by
  unfold fX2_takeEnd
  rw [if_neg hf]
