/-! bytes of a long; sets -/
theorem by_8 (y : Int64) : ∃ b : Nat, b < 256 ∧ Int64.toInt32 (y &&& 255) = nI b ∧ (Int64.toInt32 y) &&& 255 = nI b := by
  refine ⟨y.toBitVec.toNat % 256, Nat.mod_lt _ (by decide), ?_, ?_⟩
  · apply Int32.toBitVec_inj.mp
    apply BitVec.eq_of_toNat_eq
    rw [Int64.toBitVec_toInt32, BitVec.signExtend_eq_setWidth_of_le _ (by decide), BitVec.toNat_setWidth, Int64.toBitVec_and, BitVec.toNat_and]
    show (y.toBitVec.toNat &&& (2 ^ 8 - 1)) % 2 ^ 32 = (y.toBitVec.toNat % 256) % 2 ^ 32
    rw [Nat.and_two_pow_sub_one_eq_mod]
  · apply Int32.toBitVec_inj.mp
    apply BitVec.eq_of_toNat_eq
    rw [Int32.toBitVec_and, BitVec.toNat_and, Int64.toBitVec_toInt32, BitVec.signExtend_eq_setWidth_of_le _ (by decide), BitVec.toNat_setWidth]
    show (y.toBitVec.toNat % 2 ^ 32 &&& (2 ^ 8 - 1)) = (y.toBitVec.toNat % 256) % 2 ^ 32
    rw [Nat.and_two_pow_sub_one_eq_mod]
    omega
theorem by_n : ∀ b : Nat, b < 256 → vp_nar .byte ((Int32.toInt8 (nI b)).toInt32) &&& 255 = nI b := by
  intro b hb
  have h : ∀ b : Fin 256, vp_nar .byte ((Int32.toInt8 (nI b.val)).toInt32) &&& 255 = nI b.val := by decide +kernel
  exact h ⟨b, hb⟩
theorem dn_1 (i : Nat) : nI (i + 1) + (-1) = nI i := by
  have h : nI (i + 1) + (-1) = nI (i + 1) - 1 := (Int32.sub_eq_add_neg _ _).symm
  rw [h, nI_pred]
theorem fd_L (N : Nat) (x2 : Int64) : ∀ (i f n : Nat) (fb tx : Nat → Int32), i < f → n + i ≤ 400 → (∀ j, j < n → ∃ b : Nat, b < 256 ∧ fb j &&& 255 = nI b ∧ tx j = nI b) → ∃ fb' tx' : Nat → Int32, fX7_feed_L37 N f x2 (nI i + (-1)) (nI n) fb = some (nI (n + i), fb') ∧ fX8_feed_L35 N f x2 (nI i + (-1)) (nI n) tx = some (nI (n + i), tx') ∧ ∀ j, j < n + i → ∃ b : Nat, b < 256 ∧ fb' j &&& 255 = nI b ∧ tx' j = nI b := by
  intro i
  induction i with
  | zero =>
    intro f n fb tx hf hn h
    obtain ⟨f, rfl⟩ : ∃ g, f = g + 1 := ⟨f - 1, by omega⟩
    refine ⟨fb, tx, ?_, ?_, h⟩
    · rw [fX7_feed_L37_s, if_pos (show nI 0 + (-1) < 0 by decide)]
      rfl
    · rw [fX8_feed_L35_s, if_pos (show nI 0 + (-1) < 0 by decide)]
      rfl
  | succ i ih =>
    intro f n fb tx hf hn h
    obtain ⟨f, rfl⟩ : ∃ g, f = g + 1 := ⟨f - 1, by omega⟩
    obtain ⟨b, hb, e1, e2⟩ := by_8 (x2 >>> (Int32.toInt64 (8 * nI i) &&& 63))
    have e3 := by_n b hb
    obtain ⟨fb', tx', r1, r2, r3⟩ := ih f (n + 1) (upd fb n (vp_nar .byte ((Int32.toInt8 (nI b)).toInt32))) (upd tx n (nI b)) (by omega) (by omega) (fun j hj => by
      by_cases q : j = n
      · subst q; rw [upd_at, upd_at]; exact ⟨b, hb, e3, rfl⟩
      · rw [upd_ne q, upd_ne q]; exact h j (by omega))
    refine ⟨fb', tx', ?_, ?_, fun j hj => r3 j (by omega)⟩
    · rw [fX7_feed_L37_s, dn_1, if_neg (nI_pos (by omega)), e2]
      unfold fX5_append
      rw [if_neg (show ¬ (400 : Int32) ≤ nI n from fun z => by have := (s_le (a := 400) (by decide) (by omega)).mp z; omega), lt_e, ck_nI (by omega) (by decide), lt_e, nI_1, nI_clamp (by omega), bd_s]
      dsimp only
      rw [lt_e, r1, show n + 1 + i = n + (i + 1) by omega]
    · rw [fX8_feed_L35_s, dn_1, if_neg (nI_pos (by omega)), e1, lt_e, ck_nI (by omega) (by decide), lt_e, lt_e, nI_1, nI_clamp (by omega), r2, show n + 1 + i = n + (i + 1) by omega]
theorem n_and1 : ∀ n : Nat, n ≤ 8 → ∀ T : Nat, T < 2 ^ n → nI (2 ^ n - 1) &&& nI T = nI T := by
  intro n hn T hT
  have h : ∀ n : Fin 9, ∀ T : Fin 256, T.val < 2 ^ n.val → nI (2 ^ n.val - 1) &&& nI T.val = nI T.val := by decide +kernel
  have h8 : 2 ^ n ≤ 2 ^ 8 := Nat.pow_le_pow_right (by decide) hn
  exact h ⟨n, by omega⟩ ⟨T, Nat.lt_of_lt_of_le hT h8⟩ hT
theorem n_and2 : ∀ T : Nat, T < 256 → (-1 : Int32) &&& nI T = nI T := by
  intro T hT
  have h : ∀ T : Fin 256, (-1 : Int32) &&& nI T.val = nI T.val := by decide +kernel
  exact h ⟨T, hT⟩
