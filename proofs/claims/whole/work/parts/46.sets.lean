/-! sets as numbers -/
def sB (p : Nat → Bool) : Nat → Nat
  | 0 => 0
  | n + 1 => sB p n + (if p n = true then 2 ^ n else 0)
theorem sB_lt (p : Nat → Bool) : ∀ n, sB p n < 2 ^ n := by
  intro n
  induction n with
  | zero => exact Nat.one_pos
  | succ n ih =>
    show sB p n + (if p n = true then 2 ^ n else 0) < 2 ^ (n + 1)
    rw [Nat.pow_succ]
    by_cases q : p n = true
    · rw [if_pos q]; omega
    · rw [if_neg q]; omega
theorem sB_or : ∀ i : Nat, i < 5 → ∀ T : Nat, T < 2 ^ i → (nI T ||| ((1 : Int32) <<< (nI i &&& 31))) = nI (T + 2 ^ i) := by
  intro i hi T hT
  have h : ∀ i : Fin 5, ∀ T : Fin 32, T.val < 2 ^ i.val → (nI T.val ||| ((1 : Int32) <<< (nI i.val &&& 31))) = nI (T.val + 2 ^ i.val) := by decide +kernel
  exact h ⟨i, hi⟩ ⟨T, Nat.lt_of_lt_of_le hT (Nat.pow_le_pow_right (by decide) (show i ≤ 5 by omega))⟩ hT
theorem sB_step (p : Nat → Bool) (i : Nat) (hi : i < 5) : (p i = true → (nI (sB p i) ||| ((1 : Int32) <<< (nI i &&& 31))) = nI (sB p (i + 1))) ∧ (¬ p i = true → nI (sB p i) = nI (sB p (i + 1))) := by
  constructor
  · intro q
    rw [sB_or i hi _ (sB_lt p i)]
    show _ = nI (sB p i + (if p i = true then 2 ^ i else 0))
    rw [if_pos q]
  · intro q
    show _ = nI (sB p i + (if p i = true then 2 ^ i else 0))
    rw [if_neg q, Nat.add_zero]
theorem sh_0 : ∀ i : Nat, i < 8 → (0 : Int32) <<< (nI i &&& 31) = 0 := by
  intro i hi
  have h : ∀ i : Fin 8, (0 : Int32) <<< (nI i.val &&& 31) = 0 := by decide +kernel
  exact h ⟨i, hi⟩
theorem one_0 (N : Nat) : fX8_one N 0 = some 0 := by unfold fX8_one; rw [if_pos rfl]
theorem one_1 (N : Nat) : fX8_one N 1 = some 1 := by unfold fX8_one; rw [if_neg (by decide)]
theorem or_0 (a : Int32) : a ||| 0 = a := Int32.or_zero
def inS (lo hi : Int32) (v : Nat → Int32) (k : Nat) : Bool := decide (lo.toInt ≤ (v k).toInt ∧ (v k).toInt ≤ hi.toInt)
theorem inS_t {lo hi : Int32} {v : Nat → Int32} {k : Nat} : inS lo hi v k = true ↔ lo.toInt ≤ (v k).toInt ∧ (v k).toInt ≤ hi.toInt := by
  unfold inS; rw [decide_eq_true_eq]
theorem w_now (N : Nat) (worn : Int32) (weight : Nat → Int32) {k : Nat} (hk : k < 5) : fX1_weightNow N worn weight (nI k) = some (weight k - worn) := by
  unfold fX1_weightNow
  rw [ck_nI hk (by decide), nI_clamp (by omega), lt_e]
theorem s_kinds (N : Nat) {K : Nat} (hK : K ≤ 5) (worn : Int32) (weight : Nat → Int32) (lo hi : Int32) : ∀ (d i f : Nat), i + d = K → d < f → fX1_kindsWithin_L6 N f lo hi (nI (sB (inS lo hi (fun k => weight k - worn)) i)) (nI i) (nI K) worn weight = some (nI (sB (inS lo hi (fun k => weight k - worn)) K)) := by
  intro d
  induction d with
  | zero =>
    intro i f hid hf
    obtain ⟨f, rfl⟩ : ∃ g, f = g + 1 := ⟨f - 1, by omega⟩
    rw [fX1_kindsWithin_L6_s, if_pos (nI_le (by omega) (by omega)), show i = K by omega]
  | succ d ih =>
    intro i f hid hf
    obtain ⟨f, rfl⟩ : ∃ g, f = g + 1 := ⟨f - 1, by omega⟩
    have st := sB_step (inS lo hi (fun k => weight k - worn)) i (by omega)
    have ins := inS_t (lo := lo) (hi := hi) (v := fun k => weight k - worn) (k := i)
    rw [fX1_kindsWithin_L6_s, if_neg (nI_ge (by omega) (by omega)), w_now N worn weight (by omega), bd_s]
    by_cases q1 : weight i - worn < lo
    · rw [if_pos q1, lt_e, nI_1, st.2 (fun z => by have z1 := (ins.mp z).1; rw [lt32] at q1; omega)]
      exact ih (i + 1) f (by omega) (by omega)
    · rw [if_neg q1, bd_s]
      by_cases q2 : hi < weight i - worn
      · rw [if_pos q2, lt_e, nI_1, st.2 (fun z => by have z1 := (ins.mp z).2; rw [lt32] at q2; omega)]
        exact ih (i + 1) f (by omega) (by omega)
      · rw [if_neg q2, lt_e, lt_e, nI_1, st.1 (ins.mpr (by rw [lt32] at q1 q2; omega))]
        exact ih (i + 1) f (by omega) (by omega)
theorem c_kinds (N : Nat) (hN : 10 ≤ N) {K : Nat} (hK : K ≤ 5) (worn : Int32) (weight : Nat → Int32) (lo hi : Int32) : fX1_kindsWithin N (nI K) worn weight lo hi = some (nI (sB (inS lo hi (fun k => weight k - worn)) K)) := by
  unfold fX1_kindsWithin
  rw [show fX1_kindsWithin_L6 N N lo hi 0 0 (nI K) worn weight = _ from s_kinds N hK worn weight lo hi K 0 N (by omega) (by omega), bd_s]
theorem s_slugs (N : Nat) {S : Nat} (hS : S ≤ 5) (slug : Nat → Int32) (lo hi : Int32) : ∀ (d i f : Nat), i + d = S → d < f → fX1_slugsWithin_L5 N f lo hi (nI (sB (inS lo hi slug) i)) (nI i) (nI S) slug = some (nI (sB (inS lo hi slug) S)) := by
  intro d
  induction d with
  | zero =>
    intro i f hid hf
    obtain ⟨f, rfl⟩ : ∃ g, f = g + 1 := ⟨f - 1, by omega⟩
    rw [fX1_slugsWithin_L5_s, if_pos (nI_le (by omega) (by omega)), show i = S by omega]
  | succ d ih =>
    intro i f hid hf
    obtain ⟨f, rfl⟩ : ∃ g, f = g + 1 := ⟨f - 1, by omega⟩
    have st := sB_step (inS lo hi slug) i (by omega)
    have ins := inS_t (lo := lo) (hi := hi) (v := slug) (k := i)
    rw [fX1_slugsWithin_L5_s, if_neg (nI_ge (by omega) (by omega)), ck_nI (by omega) (by decide), nI_clamp (by omega)]
    by_cases q1 : slug i < lo
    · rw [if_pos q1, lt_e, nI_1, st.2 (fun z => by have z1 := (ins.mp z).1; rw [lt32] at q1; omega)]
      exact ih (i + 1) f (by omega) (by omega)
    · rw [if_neg q1]
      by_cases q2 : hi < slug i
      · rw [if_pos q2, lt_e, nI_1, st.2 (fun z => by have z1 := (ins.mp z).2; rw [lt32] at q2; omega)]
        exact ih (i + 1) f (by omega) (by omega)
      · rw [if_neg q2, lt_e, lt_e, nI_1, st.1 (ins.mpr (by rw [lt32] at q1 q2; omega))]
        exact ih (i + 1) f (by omega) (by omega)
theorem c_slugs (N : Nat) (hN : 10 ≤ N) {S : Nat} (hS : S ≤ 5) (slug : Nat → Int32) (lo hi : Int32) : fX1_slugsWithin N (nI S) slug lo hi = some (nI (sB (inS lo hi slug) S)) := by
  unfold fX1_slugsWithin
  rw [show fX1_slugsWithin_L5 N N lo hi 0 0 (nI S) slug = _ from s_slugs N hS slug lo hi S 0 N (by omega) (by omega), bd_s]
theorem s_cols (N : Nat) {C k : Nat} (hC : C ≤ 5) (hk : k < 5) (worn : Int32) (weight low high : Nat → Int32) : ∀ (d i f : Nat), i + d = C → d < f → fX1_columnsPassedBy_L5 N f (nI k) (nI (sB (fun c => decide ((low c).toInt ≤ (weight k - worn).toInt ∧ (weight k - worn).toInt ≤ (high c).toInt)) i)) (nI i) (nI C) worn weight low high = some (nI (sB (fun c => decide ((low c).toInt ≤ (weight k - worn).toInt ∧ (weight k - worn).toInt ≤ (high c).toInt)) C)) := by
  intro d
  induction d with
  | zero =>
    intro i f hid hf
    obtain ⟨f, rfl⟩ : ∃ g, f = g + 1 := ⟨f - 1, by omega⟩
    rw [fX1_columnsPassedBy_L5_s, if_pos (nI_le (by omega) (by omega)), show i = C by omega]
  | succ d ih =>
    intro i f hid hf
    obtain ⟨f, rfl⟩ : ∃ g, f = g + 1 := ⟨f - 1, by omega⟩
    have st := sB_step (fun c => decide ((low c).toInt ≤ (weight k - worn).toInt ∧ (weight k - worn).toInt ≤ (high c).toInt)) i (by omega)
    rw [decide_eq_true_eq] at st
    rw [fX1_columnsPassedBy_L5_s, if_neg (nI_ge (by omega) (by omega)), p_passes N (by omega) hk, bd_s]
    by_cases q : (low i).toInt ≤ (weight k - worn).toInt ∧ (weight k - worn).toInt ≤ (high i).toInt
    · rw [if_pos q, if_neg (by decide), lt_e, lt_e, nI_1, st.1 q]
      exact ih (i + 1) f (by omega) (by omega)
    · rw [if_neg q, if_pos rfl, lt_e, nI_1, st.2 q]
      exact ih (i + 1) f (by omega) (by omega)
theorem m_cols (N : Nat) {K C : Nat} {rlen cu cg mu mg tube goods stick kicks kcnt low high price wired : Nat → Int32} {lost stamps sales damp worn seed : Int32} {w : Nat → Int32} (h : RSt K C rlen cu cg mu mg tube goods stick kicks kcnt low high price wired lost stamps sales damp worn seed w 0) (hK : K ≤ 5) (hC : C ≤ 5) {weight mweight : Nat → Int32} (hwe : ∀ k, k < K → mweight k = weight k) {k : Nat} (hk : k < K) : ∀ (d i f : Nat), i + d = C → d < f → fX8_passedBy_L4 N f (nI k) (nI (sB (fun c => decide ((low c).toInt ≤ (weight k - worn).toInt ∧ (weight k - worn).toInt ≤ (high c).toInt)) i)) (nI i) (nI C) mweight w = some (nI (sB (fun c => decide ((low c).toInt ≤ (weight k - worn).toInt ∧ (weight k - worn).toInt ≤ (high c).toInt)) C)) := by
  intro d
  induction d with
  | zero =>
    intro i f hid hf
    obtain ⟨f, rfl⟩ : ∃ g, f = g + 1 := ⟨f - 1, by omega⟩
    rw [fX8_passedBy_L4_s, if_pos (nI_le (by omega) (by omega)), show i = C by omega]
  | succ d ih =>
    intro i f hid hf
    obtain ⟨f, rfl⟩ : ∃ g, f = g + 1 := ⟨f - 1, by omega⟩
    have st := sB_step (fun c => decide ((low c).toInt ≤ (weight k - worn).toInt ∧ (weight k - worn).toInt ≤ (high c).toInt)) i (by omega)
    rw [decide_eq_true_eq] at st
    have e2 : fX8_weightIn N mweight w 0 (nI k) = some (weight k - worn) := (p_weight N h (by decide) hwe hK hk).2
    have e3 : fX8_passes N w 0 (nI i) (weight k - worn) = _ := p_passW N h hC (by decide) (c := i) (by omega) (weight k - worn)
    rw [fX8_passedBy_L4_s, if_neg (nI_ge (by omega) (by omega)), e2, bd_s, e3, bd_s]
    by_cases q : (low i).toInt ≤ (weight k - worn).toInt ∧ (weight k - worn).toInt ≤ (high i).toInt
    · rw [if_pos q, one_1, bd_s, lt_e, lt_e, nI_1, st.1 q]
      exact ih (i + 1) f (by omega) (by omega)
    · rw [if_neg q, one_0, bd_s, lt_e, lt_e, nI_1, sh_0 i (by omega), or_0, st.2 q]
      exact ih (i + 1) f (by omega) (by omega)
theorem p_cols (N : Nat) (hN : 10 ≤ N) {K C : Nat} {rlen cu cg mu mg tube goods stick kicks kcnt low high price wired : Nat → Int32} {lost stamps sales damp worn seed : Int32} {w : Nat → Int32} (h : RSt K C rlen cu cg mu mg tube goods stick kicks kcnt low high price wired lost stamps sales damp worn seed w 0) (hK : K ≤ 5) (hC : C ≤ 5) {weight mweight : Nat → Int32} (hwe : ∀ k, k < K → mweight k = weight k) {k : Nat} (hk : k < K) : ∃ r : Int32, fX1_columnsPassedBy N (nI C) worn weight low high (nI k) = some r ∧ fX8_passedBy N (nI C) mweight w (nI k) = some r := by
  refine ⟨nI (sB (fun c => decide ((low c).toInt ≤ (weight k - worn).toInt ∧ (weight k - worn).toInt ≤ (high c).toInt)) C), ?_, ?_⟩
  · unfold fX1_columnsPassedBy
    rw [show fX1_columnsPassedBy_L5 N N (nI k) 0 0 (nI C) worn weight low high = _ from s_cols N hC (by omega) worn weight low high C 0 N (by omega) (by omega), bd_s]
  · unfold fX8_passedBy
    rw [show fX8_passedBy_L4 N N (nI k) 0 0 (nI C) mweight w = _ from m_cols N h hK hC hwe hk C 0 N (by omega) (by omega), bd_s]
theorem m_passK (N : Nat) {K C : Nat} {rlen cu cg mu mg tube goods stick kicks kcnt low high price wired : Nat → Int32} {lost stamps sales damp worn seed : Int32} {w : Nat → Int32} (h : RSt K C rlen cu cg mu mg tube goods stick kicks kcnt low high price wired lost stamps sales damp worn seed w 0) (hK : K ≤ 5) (hC : C ≤ 5) {weight mweight slug : Nat → Int32} (hwe : ∀ k, k < K → mweight k = weight k) (S : Int32) {c : Nat} (hc : c < C) : ∀ (d i f : Nat), i + d = K → d < f → fX8_passers_L5 N f (nI c) 0 (nI (sB (inS (low c) (high c) (fun k => weight k - worn)) i)) (nI i) (nI K) S mweight w slug = some (nI (sB (inS (low c) (high c) (fun k => weight k - worn)) K)) := by
  intro d
  induction d with
  | zero =>
    intro i f hid hf
    obtain ⟨f, rfl⟩ : ∃ g, f = g + 1 := ⟨f - 1, by omega⟩
    rw [fX8_passers_L5_s, if_pos (show (0 : Int32) = 0 from rfl), if_pos (nI_le (by omega) (by omega)), show i = K by omega]
  | succ d ih =>
    intro i f hid hf
    obtain ⟨f, rfl⟩ : ∃ g, f = g + 1 := ⟨f - 1, by omega⟩
    have st := sB_step (inS (low c) (high c) (fun k => weight k - worn)) i (by omega)
    rw [inS_t] at st
    have e2 : fX8_weightIn N mweight w 0 (nI i) = some (weight i - worn) := (p_weight N h (by decide) hwe hK (by omega)).2
    have e3 : fX8_passes N w 0 (nI c) (weight i - worn) = _ := p_passW N h hC (by decide) hc (weight i - worn)
    rw [fX8_passers_L5_s, if_pos (show (0 : Int32) = 0 from rfl), if_neg (nI_ge (by omega) (by omega)), if_pos (show (0 : Int32) = 0 from rfl), e2, bd_s, e3, bd_s]
    by_cases q : (low c).toInt ≤ (weight i - worn).toInt ∧ (weight i - worn).toInt ≤ (high c).toInt
    · rw [if_pos q, one_1, bd_s, lt_e, lt_e, nI_1, st.1 q]
      exact ih (i + 1) f (by omega) (by omega)
    · rw [if_neg q, one_0, bd_s, lt_e, lt_e, nI_1, sh_0 i (by omega), or_0, st.2 q]
      exact ih (i + 1) f (by omega) (by omega)
theorem m_passS (N : Nat) {K C : Nat} {rlen cu cg mu mg tube goods stick kicks kcnt low high price wired : Nat → Int32} {lost stamps sales damp worn seed : Int32} {w : Nat → Int32} (h : RSt K C rlen cu cg mu mg tube goods stick kicks kcnt low high price wired lost stamps sales damp worn seed w 0) (hC : C ≤ 5) {S : Nat} (hS : S ≤ 5) {mweight slug mslug : Nat → Int32} (hsl : ∀ i, i < S → mslug i = slug i) (KK : Int32) {c : Nat} (hc : c < C) : ∀ (d i f : Nat), i + d = S → d < f → fX8_passers_L5 N f (nI c) 1 (nI (sB (inS (low c) (high c) slug) i)) (nI i) KK (nI S) mweight w mslug = some (nI (sB (inS (low c) (high c) slug) S)) := by
  intro d
  induction d with
  | zero =>
    intro i f hid hf
    obtain ⟨f, rfl⟩ : ∃ g, f = g + 1 := ⟨f - 1, by omega⟩
    rw [fX8_passers_L5_s, if_neg (show ¬ (1 : Int32) = 0 by decide), if_pos (nI_le (by omega) (by omega)), show i = S by omega]
  | succ d ih =>
    intro i f hid hf
    obtain ⟨f, rfl⟩ : ∃ g, f = g + 1 := ⟨f - 1, by omega⟩
    have st := sB_step (inS (low c) (high c) slug) i (by omega)
    rw [inS_t] at st
    have e3 : fX8_passes N w 0 (nI c) (slug i) = _ := p_passW N h hC (by decide) hc (slug i)
    rw [fX8_passers_L5_s, if_neg (show ¬ (1 : Int32) = 0 by decide), if_neg (nI_ge (by omega) (by omega)), if_neg (show ¬ (1 : Int32) = 0 by decide), ck_nI (by omega) (by decide), nI_clamp (by omega), hsl i (by omega), e3, bd_s]
    by_cases q : (low c).toInt ≤ (slug i).toInt ∧ (slug i).toInt ≤ (high c).toInt
    · rw [if_pos q, one_1, bd_s, lt_e, lt_e, nI_1, st.1 q]
      exact ih (i + 1) f (by omega) (by omega)
    · rw [if_neg q, one_0, bd_s, lt_e, lt_e, nI_1, sh_0 i (by omega), or_0, st.2 q]
      exact ih (i + 1) f (by omega) (by omega)
theorem p_cheats (N : Nat) {K C : Nat} {rlen cu cg mu mg tube goods stick kicks kcnt low high price wired : Nat → Int32} {lost stamps sales damp worn seed : Int32} {w : Nat → Int32} (h : RSt K C rlen cu cg mu mg tube goods stick kicks kcnt low high price wired lost stamps sales damp worn seed w 0) (hK : K ≤ 5) (hC : C ≤ 5) : ∀ (d i f : Nat) (a b : Int32), i + d = C → d < f → ∃ r : Int32, fX7_cheats_L6 N f a b (nI i) (nI C) price wired = some r ∧ fX8_cheats_L6 N f a b (nI i) (nI C) w = some r := by
  intro d
  induction d with
  | zero =>
    intro i f a b hi hf
    obtain ⟨f, rfl⟩ : ∃ g, f = g + 1 := ⟨f - 1, by omega⟩
    refine ⟨a, ?_, ?_⟩
    · rw [fX7_cheats_L6_s, if_pos (nI_le (by omega) (by omega))]
    · rw [fX8_cheats_L6_s, if_pos (nI_le (by omega) (by omega))]
  | succ d ih =>
    intro i f a b hi hf
    obtain ⟨f, rfl⟩ : ∃ g, f = g + 1 := ⟨f - 1, by omega⟩
    obtain ⟨e1, e2⟩ := p_cheat N h hK hC (j := i) (by omega)
    rw [fX7_cheats_L6_s, if_neg (nI_ge (by omega) (by omega)), e1, fX8_cheats_L6_s, if_neg (nI_ge (by omega) (by omega)), e2]
    simp only [bd_s]
    by_cases q : price (wired i).toNatClampNeg - price i ≤ b
    · rw [if_pos q, if_pos q, lt_e, lt_e, nI_1]
      exact ih (i + 1) f a b (by omega) (by omega)
    · rw [if_neg q, if_neg q, lt_e, lt_e, nI_1]
      exact ih (i + 1) f _ _ (by omega) (by omega)
theorem sh_1 : ∀ m : Nat, m < 9 → (1 : Int32) <<< (nI m &&& 31) = nI (2 ^ m) := by
  intro m hm
  have h : ∀ m : Fin 9, (1 : Int32) <<< (nI m.val &&& 31) = nI (2 ^ m.val) := by decide +kernel
  exact h ⟨m, hm⟩
