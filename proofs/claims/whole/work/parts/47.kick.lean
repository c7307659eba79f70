theorem and1 (x : Int32) : x &&& 1 = 0 ∨ x &&& 1 = 1 := by
  have h : (x &&& 1).toBitVec.toNat = x.toBitVec.toNat % 2 := by
    rw [Int32.toBitVec_and, BitVec.toNat_and]
    exact Nat.and_one_is_mod _
  rcases Nat.mod_two_eq_zero_or_one x.toBitVec.toNat with q | q
  · left
    apply Int32.toBitVec_inj.mp
    apply BitVec.eq_of_toNat_eq
    rw [h, q]; rfl
  · right
    apply Int32.toBitVec_inj.mp
    apply BitVec.eq_of_toNat_eq
    rw [h, q]; rfl
theorem nar01 (x : Int32) : vp_nar .boolean x = 0 ∨ vp_nar .boolean x = 1 := and1 x
theorem k_rev : ∀ m : Nat, m < 7 → ∀ b : Nat, b < 64 → ∀ s : Nat, s < 2 → ((nI (rev m b) ||| (nI s <<< (nI m &&& 31))) >>> ((1 : Int32) &&& 31)) = nI (rev m ((2 * b + s) % 64)) := by
  intro m hm b hb s hs
  have h : ∀ m : Fin 7, ∀ b : Fin 64, ∀ s : Fin 2, ((nI (rev m.val b.val) ||| (nI s.val <<< (nI m.val &&& 31))) >>> ((1 : Int32) &&& 31)) = nI (rev m.val ((2 * b.val + s.val) % 64)) := by decide +kernel
  exact h ⟨m, hm⟩ ⟨b, hb⟩ ⟨s, hs⟩
theorem k_add : ∀ b : Nat, b < 64 → ∀ s : Nat, s < 2 → ((nI b <<< ((1 : Int32) &&& 31)) ||| nI s) &&& 63 = nI ((2 * b + s) % 64) := by
  intro b hb s hs
  have h : ∀ b : Fin 64, ∀ s : Fin 2, ((nI b.val <<< ((1 : Int32) &&& 31)) ||| nI s.val) &&& 63 = nI ((2 * b.val + s.val) % 64) := by decide +kernel
  exact h ⟨b, hb⟩ ⟨s, hs⟩
theorem k_mask : ∀ m : Nat, m < 7 → ∀ b : Nat, b < 64 → nI b &&& ((1 : Int32) <<< (nI m &&& 31) - 1) = nI (b % 2 ^ m) := by
  intro m hm b hb
  have h : ∀ m : Fin 7, ∀ b : Fin 64, nI b.val &&& ((1 : Int32) <<< (nI m.val &&& 31) - 1) = nI (b.val % 2 ^ m.val) := by decide +kernel
  exact h ⟨m, hm⟩ ⟨b, hb⟩
theorem rev_lt : ∀ m b : Nat, rev m b < 2 ^ m := by
  intro m
  induction m with
  | zero => intro b; exact Nat.one_pos
  | succ m ih =>
    intro b
    show (b % 2) * 2 ^ m + rev m (b / 2) < 2 ^ (m + 1)
    have h := ih (b / 2)
    rw [Nat.pow_succ]
    rcases Nat.mod_two_eq_zero_or_one b with q | q <;> rw [q] <;> omega
theorem rev_iff : ∀ m b c : Nat, rev m b = rev m c ↔ b % 2 ^ m = c % 2 ^ m := by
  intro m
  induction m with
  | zero => intro b c; simp [rev, Nat.mod_one]
  | succ m ih =>
    intro b c
    show (b % 2) * 2 ^ m + rev m (b / 2) = (c % 2) * 2 ^ m + rev m (c / 2) ↔ _
    have h1 := rev_lt m (b / 2)
    have h2 := rev_lt m (c / 2)
    have h := ih (b / 2) (c / 2)
    rw [Nat.pow_succ', Nat.mod_mul, Nat.mod_mul]
    rcases Nat.mod_two_eq_zero_or_one b with q | q <;> rcases Nat.mod_two_eq_zero_or_one c with q2 | q2 <;> rw [q, q2] <;> constructor <;> intro z <;> omega
theorem rev_0 : ∀ m : Nat, rev m 0 = 0 := by
  intro m
  induction m with
  | zero => rfl
  | succ m ih => show 0 % 2 * 2 ^ m + rev m (0 / 2) = 0; rw [Nat.zero_div, ih]; simp
theorem RSt.kickU {K C : Nat} {rlen cu cg mu mg tube goods stick kicks kcnt low high price wired : Nat → Int32} {lost stamps sales damp worn seed : Int32} {w : Nat → Int32} {x : Nat} (h : RSt K C rlen cu cg mu mg tube goods stick kicks kcnt low high price wired lost stamps sales damp worn seed w x) (hK : K ≤ 5) (hC : C ≤ 5) {stick' kicks' kcnt' w' : Nat → Int32} {j : Nat} (hj : j < C) (hs : ∀ c, c ≠ j → stick' c = stick c ∧ kicks' c = kicks c ∧ kcnt' c = kcnt c) (hw : ∀ q, q ≠ x + 10 + j → q ≠ x + 15 + j → q ≠ x + 20 + j → w' q = w q) (a5 : w' (x + 10 + j) = stick' j ∧ isN (stick' j) 0 1000) (a9 : ∃ m n b : Nat, rlen j = nI m ∧ m ≤ 6 ∧ n ≤ 6 ∧ b < 64 ∧ kcnt' j = nI n ∧ kicks' j = nI b ∧ w' (x + 20 + j) = nI (min n m) ∧ w' (x + 15 + j) = nI (rev m b) ∧ (stick' j < 10 → n = 0 ∧ b = 0)) : RSt K C rlen cu cg mu mg tube goods stick' kicks' kcnt' low high price wired lost stamps sales damp worn seed w' x := by
  obtain ⟨h1, h2, h3, h4, h5, h6, h7, h8, h9, h10, h11, h12, h13, h14, h15⟩ := h
  refine ⟨fun k hk => by rw [hw _ (by omega) (by omega) (by omega)]; exact h1 k hk, fun k hk hk2 => by rw [hw _ (by omega) (by omega) (by omega)]; exact h2 k hk hk2, fun c hc => by rw [hw _ (by omega) (by omega) (by omega)]; exact h3 c hc, fun c hc hc2 => by rw [hw _ (by omega) (by omega) (by omega)]; exact h4 c hc hc2, fun c hc => ?_, fun c hc => by rw [hw _ (by omega) (by omega) (by omega)]; exact h6 c hc, fun c hc => by rw [hw _ (by omega) (by omega) (by omega), hw _ (by omega) (by omega) (by omega)]; exact h7 c hc, fun c hc => by rw [hw _ (by omega) (by omega) (by omega)]; exact h8 c hc, fun c hc => ?_, by rw [hw _ (by omega) (by omega) (by omega)]; exact h10, by rw [hw _ (by omega) (by omega) (by omega)]; exact h11, by rw [hw _ (by omega) (by omega) (by omega)]; exact h12, by rw [hw _ (by omega) (by omega) (by omega)]; exact h13, by rw [hw _ (by omega) (by omega) (by omega)]; exact h14, by rw [hw _ (by omega) (by omega) (by omega)]; exact h15⟩
  · by_cases e : c = j
    · subst e; exact a5
    · rw [hw _ (by omega) (by omega) (by omega), (hs c e).1]; exact h5 c hc
  · by_cases e : c = j
    · subst e; exact a9
    · rw [hw _ (by omega) (by omega) (by omega), hw _ (by omega) (by omega) (by omega), (hs c e).1, (hs c e).2.1, (hs c e).2.2]; exact h9 c hc
