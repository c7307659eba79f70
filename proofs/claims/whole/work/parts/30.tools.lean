/-! plain facts of the decompiled functions: checks that hold, ranges, the relation between the class's world and the reference's -/
theorem inb_nI {j n : Nat} (h : j < n) (hn : n < 2 ^ 31) : inb (nI j) n = true := by
  unfold inb
  rw [Bool.and_eq_true, decide_eq_true_eq, decide_eq_true_eq, nI_clamp (by omega)]
  exact ⟨nI_pos (by omega), h⟩
theorem ck_nI {α : Type} {j n : Nat} (h : j < n) (hn : n < 2 ^ 31) (a : Option α) : ck (nI j) n a = a := by
  unfold ck
  rw [if_pos (inb_nI h hn)]
theorem ck_at {α : Type} {i : Int32} {j n : Nat} (e : i = nI j) (h : j < n) (hn : n < 2 ^ 31) (a : Option α) : ck i n a = a := by
  subst e; exact ck_nI h hn a
theorem bd_s {α β : Type} (a : α) (f : α → Option β) : bd (some a) f = f a := rfl
theorem lt_e {α β : Type} (a : α) (f : α → Option β) : lt a f = f a := rfl
theorem bl_0 {α : Type} (a : Option α) : bl 0 a = a := rfl
theorem bl_1 {α : Type} (a : Option α) : bl 1 a = a := rfl
theorem lt32 (a b : Int32) : a < b ↔ a.toInt < b.toInt := Int32.lt_iff_toInt_lt
theorem le32 (a b : Int32) : a ≤ b ↔ a.toInt ≤ b.toInt := Int32.le_iff_toInt_le
theorem eq32 (a b : Int32) : a = b ↔ a.toInt = b.toInt := ⟨fun h => by rw [h], fun h => Int32.toInt_inj.mp h⟩
theorem lt64 (a b : Int64) : a < b ↔ a.toInt < b.toInt := Int64.lt_iff_toInt_lt
theorem le64 (a b : Int64) : a ≤ b ↔ a.toInt ≤ b.toInt := Int64.le_iff_toInt_le
theorem wide (a : Int32) : a.toInt64.toInt = a.toInt := Int32.toInt_toInt64 a
theorem rng32 (x : Int32) : -2147483648 ≤ x.toInt ∧ x.toInt < 2147483648 := ⟨Int32.le_toInt x, Int32.toInt_lt x⟩
/-- the reference's 'in' -/
theorem p_in (N : Nat) (v lo hi : Int64) : fX8_in N v lo hi = some (if lo.toInt ≤ v.toInt ∧ v.toInt ≤ hi.toInt then 1 else 0) := by
  have h64 : ∀ a b : Int64, a = b ↔ a.toInt = b.toInt := fun a b => ⟨fun h => by rw [h], fun h => Int64.toInt_inj.mp h⟩
  unfold fX8_in lg_cmp
  by_cases h1 : v.toInt < lo.toInt
  · have : ¬ v > lo := by rw [gt_iff_lt, lt64]; omega
    have h2 : ¬ v = lo := by rw [h64]; omega
    rw [if_neg this, if_neg h2, if_pos (by decide), if_neg (by omega)]
  · have hx : ¬ ((if v > lo then (1 : Int32) else if v = lo then 0 else -1) < 0) := by
      by_cases h2 : v > lo
      · rw [if_pos h2]; decide
      · have h3 : v = lo := by rw [h64]; rw [gt_iff_lt, lt64] at h2; omega
        rw [if_neg h2, if_pos h3]; decide
    rw [if_neg hx]
    by_cases h4 : hi.toInt < v.toInt
    · have : v > hi := by rw [gt_iff_lt, lt64]; exact h4
      rw [if_pos this, if_pos (by decide), if_neg (by omega)]
    · have hy : ¬ (0 < (if v > hi then (1 : Int32) else if v = hi then 0 else -1)) := by
        have h5 : ¬ v > hi := by rw [gt_iff_lt, lt64]; exact h4
        rw [if_neg h5]
        by_cases h6 : v = hi
        · rw [if_pos h6]; decide
        · rw [if_neg h6]; decide
      rw [if_neg hy, if_pos (by omega)]
theorem subN (K : Nat) (h : K ≤ 5) : ((nI K - 1 : Int32)).toInt = (K : Int) - 1 := by
  rcases (show K = 0 ∨ K = 1 ∨ K = 2 ∨ K = 3 ∨ K = 4 ∨ K = 5 by omega) with rfl | rfl | rfl | rfl | rfl | rfl <;> decide
theorem nIt (K : Nat) (h : K < 2 ^ 31) : (nI K).toInt = (K : Int) := nI_toInt h
/-- a column, a kind: in or not, alike on both sides -/
theorem p_ran (N K : Nat) (h : K ≤ 5) (x : Int32) : (¬ (∃ j : Nat, j < K ∧ x = nI j) ∧ fX1_isColumn N (nI K) x = some 0 ∧ fX1_isKind N (nI K) x = some 0 ∧ fX8_isColumn N (nI K) x = some 0 ∧ fX8_isKind N (nI K) x = some 0) ∨ (∃ j : Nat, j < K ∧ x = nI j ∧ fX1_isColumn N (nI K) x = some 1 ∧ fX1_isKind N (nI K) x = some 1 ∧ fX8_isColumn N (nI K) x = some 1 ∧ fX8_isKind N (nI K) x = some 1) := by
  have hm : fX8_isColumn N (nI K) x = some (if 0 ≤ x.toInt ∧ x.toInt ≤ (K : Int) - 1 then 1 else 0) := by
    unfold fX8_isColumn
    rw [p_in, bd_s, wide, wide, subN K h]
    by_cases q : (0 : Int64).toInt ≤ x.toInt ∧ x.toInt ≤ (K : Int) - 1
    · rw [if_pos q, if_pos (show 0 ≤ x.toInt ∧ x.toInt ≤ (K : Int) - 1 from q)]; rfl
    · rw [if_neg q, if_neg (show ¬ (0 ≤ x.toInt ∧ x.toInt ≤ (K : Int) - 1) from q)]; rfl
  have hk : fX8_isKind N (nI K) x = fX8_isColumn N (nI K) x := rfl
  have hx : fX1_isKind N (nI K) x = fX1_isColumn N (nI K) x := rfl
  rw [hk, hx, hm]
  unfold fX1_isColumn
  rcases pk_ix x (n := K) (by omega) with q | q | ⟨j, hj, q⟩
  · left
    have q2 := (lt32 _ _).mp q
    have q3 : x.toInt < 0 := q2
    rw [if_pos q, if_neg (by omega)]
    refine ⟨?_, rfl, rfl, rfl, rfl⟩
    rintro ⟨j, hj, e⟩
    rw [e, nIt j (by omega)] at q3
    omega
  · left
    have q2 := (le32 _ _).mp q
    rw [nIt K (by omega)] at q2
    have q3 : ¬ x < 0 := by rw [lt32]; show ¬ x.toInt < 0; omega
    rw [if_neg q3, if_pos q, if_neg (by omega)]
    refine ⟨?_, rfl, rfl, rfl, rfl⟩
    rintro ⟨j, hj, e⟩
    rw [e, nIt j (by omega)] at q2
    omega
  · right
    have e := nIt j (by omega : j < 2 ^ 31)
    rw [q]
    rw [if_neg (nI_pos (by omega)), if_neg (nI_ge hj (by omega)), e, if_pos (by omega)]
    exact ⟨j, hj, rfl, rfl, rfl, rfl, rfl⟩
/-- a number within bounds -/
def isN (x : Int32) (lo hi : Nat) : Prop := ∃ j : Nat, lo ≤ j ∧ j ≤ hi ∧ x = nI j
theorem isN_i {x : Int32} {lo hi : Nat} (hh : hi < 2 ^ 31) : isN x lo hi ↔ (lo : Int) ≤ x.toInt ∧ x.toInt ≤ hi := by
  constructor
  · rintro ⟨j, h1, h2, rfl⟩
    rw [nIt j (by omega)]
    omega
  · rintro ⟨h1, h2⟩
    refine ⟨x.toInt.toNat, by omega, by omega, ?_⟩
    rw [eq32, nIt _ (by omega)]
    omega
/-- the m low bits of b, turned round -/
def rev : Nat → Nat → Nat
  | 0, _ => 0
  | m + 1, b => (b % 2) * 2 ^ m + rev m (b / 2)
def RText (tl : Int32) (fb : Nat → Int32) (ts : Int32) (tx : Nat → Int32) : Prop := ∃ n : Nat, n ≤ 400 ∧ tl = nI n ∧ ts = nI n ∧ ∀ j, j < n → ∃ b : Nat, b < 256 ∧ fb j &&& 255 = nI b ∧ tx j = nI b
def RPay (K : Nat) (value paid : Nat → Int32) : Prop := ∃ σ : Nat → Nat, (∀ i, i < K → σ i < K ∧ paid i = nI (σ i)) ∧ ∀ i j, i < j → j < K → (value (σ j)).toInt < (value (σ i)).toInt ∨ ((value (σ j)).toInt = (value (σ i)).toInt ∧ σ i < σ j)
def RPlan (K C S : Nat) (kinds columns slugs : Int32) (value weight slugW rhythm rlen paid : Nat → Int32) (mk mc ms : Int32) (mvalue mweight mslug mrhythm mrlong : Nat → Int32) : Prop :=
  (K ≤ 5 ∧ C ≤ 5 ∧ S ≤ 5) ∧ (kinds = nI K ∧ columns = nI C ∧ slugs = nI S) ∧ (mk = nI K ∧ mc = nI C ∧ ms = nI S) ∧
  (∀ k, k < K → mvalue k = value k ∧ isN (value k) 1 99 ∧ mweight k = weight k ∧ isN (weight k) 10 99) ∧
  (∀ i, i < S → mslug i = slugW i ∧ isN (slugW i) 1 99) ∧
  (∀ c, c < C → ∃ m b : Nat, 1 ≤ m ∧ m ≤ 6 ∧ b < 2 ^ m ∧ rlen c = nI m ∧ mrlong c = nI m ∧ rhythm c = nI b ∧ mrhythm c = nI (rev m b)) ∧
  RPay K value paid
/-- a state of the class, and the reference's row from x on -/
def RSt (K C : Nat) (rlen cu cg mu mg tube goods stick kicks kcnt low high price wired : Nat → Int32) (lost stamps sales damp worn seed : Int32) (w : Nat → Int32) (x : Nat) : Prop :=
  (∀ k, k < K → w (x + k) = tube k ∧ isN (tube k) 0 60) ∧
  (∀ k, K ≤ k → k < 5 → w (x + k) = mu k ∧ tube k = cu k) ∧
  (∀ c, c < C → w (x + 5 + c) = goods c ∧ isN (goods c) 0 60) ∧
  (∀ c, C ≤ c → c < 5 → w (x + 5 + c) = mg c ∧ goods c = cg c) ∧
  (∀ c, c < C → w (x + 10 + c) = stick c ∧ isN (stick c) 0 1000) ∧
  (∀ c, c < C → w (x + 25 + c) = price c ∧ isN (price c) 1 99) ∧
  (∀ c, c < C → w (x + 30 + c) = low c ∧ isN (low c) 1 99 ∧ w (x + 35 + c) = high c ∧ isN (high c) 1 99) ∧
  (∀ c, c < C → w (x + 40 + c) = wired c ∧ ∃ d : Nat, d < C ∧ wired c = nI d) ∧
  (∀ c, c < C → ∃ m n b : Nat, rlen c = nI m ∧ m ≤ 6 ∧ n ≤ 6 ∧ b < 64 ∧ kcnt c = nI n ∧ kicks c = nI b ∧ w (x + 20 + c) = nI (min n m) ∧ w (x + 15 + c) = nI (rev m b) ∧ (stick c < 10 → n = 0 ∧ b = 0)) ∧
  (w (x + 45) = lost ∧ isN lost 0 999999999) ∧ (w (x + 46) = stamps ∧ isN stamps 0 999999999) ∧ (w (x + 47) = sales ∧ isN sales 0 999999999) ∧ (w (x + 48) = damp ∧ isN damp 0 9) ∧ (w (x + 49) = worn ∧ isN worn 0 9) ∧ (w (x + 50) = seed ∧ isN seed 0 2147483647)
def RBuy (K C : Nat) (cnt : Int32) (col kind coins : Nat → Int32) (mcnt : Int32) (mcol mkind mcoins : Nat → Int32) : Prop := ∃ n : Nat, n ≤ 8 ∧ cnt = nI n ∧ mcnt = nI n ∧ ∀ i, i < n → (mcol i = col i ∧ ∃ c : Nat, c < C ∧ col i = nI c) ∧ (mkind i = kind i ∧ ∃ k : Nat, k < K ∧ kind i = nI k) ∧ mcoins i = coins i ∧ isN (coins i) 1 99
def RTry (cnt : Int32) (row len free : Nat → Int32) (mcnt : Int32) (mrow mlong mfree : Nat → Int32) : Prop := ∃ n : Nat, n ≤ 10 ∧ cnt = nI n ∧ mcnt = nI n ∧ ∀ i, i < n → (mrow i = row i ∧ isN (row i) 0 255) ∧ (mlong i = len i ∧ isN (len i) 1 8) ∧ mfree i = free i ∧ (free i = 0 ∨ free i = 1)
/-- the row from x on is the row from x on of another -/
theorem RSt.cong {K C : Nat} {rlen cu cg mu mg tube goods stick kicks kcnt low high price wired : Nat → Int32} {lost stamps sales damp worn seed : Int32} {w w' : Nat → Int32} {x : Nat} (h : RSt K C rlen cu cg mu mg tube goods stick kicks kcnt low high price wired lost stamps sales damp worn seed w x) (hK : K ≤ 5) (hC : C ≤ 5) (e : ∀ j, j < 60 → w' (x + j) = w (x + j)) : RSt K C rlen cu cg mu mg tube goods stick kicks kcnt low high price wired lost stamps sales damp worn seed w' x := by
  have e2 : ∀ a c, a + c < 60 → w' (x + a + c) = w (x + a + c) := fun a c hc => by rw [Nat.add_assoc]; exact e _ hc
  obtain ⟨h1, h2, h3, h4, h5, h6, h7, h8, h9, h10, h11, h12, h13, h14, h15⟩ := h
  refine ⟨fun k hk => ?_, fun k hk hk2 => ?_, fun c hc => ?_, fun c hc hc2 => ?_, fun c hc => ?_, fun c hc => ?_, fun c hc => ?_, fun c hc => ?_, fun c hc => ?_, ?_, ?_, ?_, ?_, ?_, ?_⟩
  · rw [e k (by omega)]; exact h1 k hk
  · rw [e k (by omega)]; exact h2 k hk hk2
  · rw [e2 5 c (by omega)]; exact h3 c hc
  · rw [e2 5 c (by omega)]; exact h4 c hc hc2
  · rw [e2 10 c (by omega)]; exact h5 c hc
  · rw [e2 25 c (by omega)]; exact h6 c hc
  · rw [e2 30 c (by omega), e2 35 c (by omega)]; exact h7 c hc
  · rw [e2 40 c (by omega)]; exact h8 c hc
  · rw [e2 20 c (by omega), e2 15 c (by omega)]; exact h9 c hc
  · rw [e 45 (by omega)]; exact h10
  · rw [e 46 (by omega)]; exact h11
  · rw [e 47 (by omega)]; exact h12
  · rw [e 48 (by omega)]; exact h13
  · rw [e 49 (by omega)]; exact h14
  · rw [e 50 (by omega)]; exact h15
/-- one place of the row is written -/
theorem upd_at (f : Nat → Int32) (k : Nat) (x : Int32) : upd f k x k = x := by unfold upd; rw [if_pos rfl]
theorem upd_ne {f : Nat → Int32} {k j : Nat} {x : Int32} (h : j ≠ k) : upd f k x j = f j := by unfold upd; rw [if_neg h]
theorem cl_add {a b : Nat} (h : a + b < 2 ^ 31) : Int32.toNatClampNeg (nI a + nI b) = a + b := by rw [nI_add, nI_clamp h]
theorem lit_nI (n : Nat) : (OfNat.ofNat n : Int32) = nI n := rfl
theorem ite_some {α : Type} {c : Prop} {i : Decidable c} {a b : Option α} (ha : ∃ r, a = some r) (hb : ∃ r, b = some r) : ∃ r, (@ite (Option α) c i a b) = some r := by
  by_cases h : c
  · rw [if_pos h]; exact ha
  · rw [if_neg h]; exact hb
