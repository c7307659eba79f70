/-! String.length, String.charAt over the reader's constants: what they answer -/
def chS (i k : Nat) : Int32 := (bytS.getD i []).getD k 0
theorem byS_ok : ∀ i, i < 4 → (lenS.getD i 0 < 2 ^ 31 ∧ ∀ k, k < lenS.getD i 0 → ((chS i k &&& 255).toUInt32 % 65536).toInt32 = chS i k ∧ narrow .char (.int (chS i k)) = .int (chS i k)) := by
  intro i hi
  refine ⟨?_, ?_⟩
  · rcases (show i = 0 ∨ i = 1 ∨ i = 2 ∨ i = 3 by omega) with rfl | rfl | rfl | rfl <;> decide
  · intro k hk
    rcases (show i = 0 ∨ i = 1 ∨ i = 2 ∨ i = 3 by omega) with rfl | rfl | rfl | rfl
    · have hk : k < 4 := hk
      rcases (show k = 0 ∨ k = 1 ∨ k = 2 ∨ k = 3 by omega) with rfl | rfl | rfl | rfl <;> exact ⟨by decide, rfl⟩
    · have hk : k < 6 := hk
      rcases (show k = 0 ∨ k = 1 ∨ k = 2 ∨ k = 3 ∨ k = 4 ∨ k = 5 by omega) with rfl | rfl | rfl | rfl | rfl | rfl <;> exact ⟨by decide, rfl⟩
    · have hk : k < 4 := hk
      rcases (show k = 0 ∨ k = 1 ∨ k = 2 ∨ k = 3 by omega) with rfl | rfl | rfl | rfl <;> exact ⟨by decide, rfl⟩
    · have hk : k < 4 := hk
      rcases (show k = 0 ∨ k = 1 ∨ k = 2 ∨ k = 3 by omega) with rfl | rfl | rfl | rfl <;> exact ⟨by decide, rfl⟩
set_option maxHeartbeats 4000000 in
set_option maxRecDepth 100000 in
theorem ctJ0_coder (l : Launch) (D : va_G) (ty : List (ClassId × FieldType)) (kK kV : Nat → Nat) (sz i : Nat) (hi : i < 4) : CtI l yJ0_coder_7d493 wsJ0_coder_7d493 { frames := 0, cells := 0, slots := 0, locals := 0 } D ty kK kV [.ref (kK i)] [] [] sz 0 := by
  refine mkI (cc := cJ0_coder_7d493) (maxL := 1) (rt := .byte) (own := RJ0) (by decide) rfl rfl (Nat.le_of_ble_eq_true rfl) ?_
  intro p e s m args below meth c A Z ls hx hb hml hown hts hK hN hX hP hD hA hS hret hl
  have hl : lv_has ls 1 [(0, .ref (kK i))] := hl
  have fl38 := hts (.fieldLink RJ0 38 "java/lang/String" "COMPACT_STRINGS" "Z") (by decide +kernel)
  have fl15 := hts (.fieldLink RJ0 15 "java/lang/String" "coder" "B") (by decide +kernel)
  refine va_gets hx hb hX.2.2.1 hS hown fl38 (fun _ h => h) dJ0_coder_7d493_0 ?_
  refine lv_if_eq (tgt := 13) hx hb dJ0_coder_7d493_3 (by decide) (fun c => absurd c (by decide)) (fun c => ?_)
  refine lv_aload_n hx hb dJ0_coder_7d493_6 rfl (lv_at hl 0 rfl) ?_
  refine vk_getf hx hb (hX.1.1 i hi).2.1 hS hown fl15 (fun _ h => h) dJ0_coder_7d493_7 ?_
  refine lv_goto (tgt := 14) hx hb dJ0_coder_7d493_10 (by decide) ?_
  exact hret _ _ _ _ hP hS rfl dJ0_coder_7d493_14
set_option maxHeartbeats 4000000 in
set_option maxRecDepth 100000 in
theorem ctJ0_isLatin1 (l : Launch) (D : va_G) (ty : List (ClassId × FieldType)) (kK kV : Nat → Nat) (sz i : Nat) (hi : i < 4) : CtI l yJ0_isLatin1_aae02 wsJ0_isLatin1_aae02 { frames := 0, cells := 0, slots := 0, locals := 0 } D ty kK kV [.ref (kK i)] [] [] sz 1 := by
  refine mkI (cc := cJ0_isLatin1_aae02) (maxL := 1) (rt := .boolean) (own := RJ0) (by decide) rfl rfl (Nat.le_of_ble_eq_true rfl) ?_
  intro p e s m args below meth c A Z ls hx hb hml hown hts hK hN hX hP hD hA hS hret hl
  have hl : lv_has ls 1 [(0, .ref (kK i))] := hl
  have fl38 := hts (.fieldLink RJ0 38 "java/lang/String" "COMPACT_STRINGS" "Z") (by decide +kernel)
  have fl15 := hts (.fieldLink RJ0 15 "java/lang/String" "coder" "B") (by decide +kernel)
  refine va_gets hx hb hX.2.2.1 hS hown fl38 (fun _ h => h) dJ0_isLatin1_aae02_0 ?_
  refine lv_if_eq (tgt := 17) hx hb dJ0_isLatin1_aae02_3 (by decide) (fun c => absurd c (by decide)) (fun c => ?_)
  refine lv_aload_n hx hb dJ0_isLatin1_aae02_6 rfl (lv_at hl 0 rfl) ?_
  refine vk_getf hx hb (hX.1.1 i hi).2.1 hS hown fl15 (fun _ h => h) dJ0_isLatin1_aae02_7 ?_
  refine lv_if_ne (tgt := 17) hx hb dJ0_isLatin1_aae02_10 (by decide) (fun c => absurd rfl c) (fun c => ?_)
  refine lv_iconst (v := 1) hx hb dJ0_isLatin1_aae02_13 (by decide) ?_
  refine lv_goto (tgt := 18) hx hb dJ0_isLatin1_aae02_14 (by decide) ?_
  exact hret _ _ _ _ hP hS rfl dJ0_isLatin1_aae02_18
set_option maxHeartbeats 4000000 in
set_option maxRecDepth 100000 in
theorem ctJ0_length (l : Launch) (D : va_G) (ty : List (ClassId × FieldType)) (kK kV : Nat → Nat) (sz i : Nat) (hi : i < 4) : CtI l yJ0_length_8abf5 wsJ0_length_8abf5 { frames := 1, cells := 0, slots := 0, locals := 20 } D ty kK kV [.ref (kK i)] [] [] sz (nI (lenS.getD i 0)) := by
  refine mkI (cc := cJ0_length_8abf5) (maxL := 1) (rt := .int) (own := RJ0) (by decide) rfl rfl (Nat.le_of_ble_eq_true rfl) ?_
  intro p e s m args below meth c A Z ls hx hb hml hown hts hK hN hX hP hD hA hS hret hl
  have hl : lv_has ls 1 [(0, .ref (kK i))] := hl
  have fl9 := hts (.fieldLink RJ0 9 "java/lang/String" "value" "[B") (by decide +kernel)
  refine lv_aload_n hx hb dJ0_length_8abf5_0 rfl (lv_at hl 0 rfl) ?_
  refine vk_getf hx hb (hX.1.1 i hi).2.2.1 hS hown fl9 (fun _ h => h) dJ0_length_8abf5_1 ?_
  refine va_tlen hx hb (hX.1.1 i hi).2.2.2 hS rfl dJ0_length_8abf5_4 ?_
  refine lv_aload_n hx hb dJ0_length_8abf5_5 rfl (lv_at hl 0 rfl) ?_
  refine callVI (rest := [.int (Int32.ofNat (lenS.getD i 0))]) ⟨hx, hb, hml, hown, hts⟩ (ctJ0_coder l D ty kK kV _ i hi) (cwV 0 hts gJ0_length_8abf5_J0_coder_7d493 rfl rfl rfl (by decide +kernel) ⟨Nat.le_of_ble_eq_true rfl, Nat.le_of_ble_eq_true rfl⟩) hK hN hX hP hD hS hA [] rfl (by decide) [] [] rfl rfl 0 rfl (by decide) (vk_recv hX.1 hi hS) rfl hl.1 rfl (Nat.le_of_ble_eq_true rfl) ⟨Nat.zero_le _, Nat.zero_le _⟩ dJ0_length_8abf5_6 (fun H locs hP hS => ?_)
  refine lv_ishr hx hb dJ0_length_8abf5_9 ?_
  rw [show Int32.ofNat (lenS.getD i 0) >>> ((0 : Int32) &&& 31) = nI (lenS.getD i 0) from sc_shr0 (byS_ok i hi).1]
  exact hret _ _ _ _ hP hS rfl dJ0_length_8abf5_10
set_option maxHeartbeats 4000000 in
set_option maxRecDepth 100000 in
theorem ctJ3_checkIndex (l : Launch) (D : va_G) (ty : List (ClassId × FieldType)) (kK kV : Nat → Nat) (sz : Nat) (a b : Int32) (q : Option Nat) (h0 : ¬ a < 0) (h1 : a < b) : CtI l yJ3_checkIndex_8e157 wsJ3_checkIndex_8e157 { frames := 0, cells := 0, slots := 0, locals := 0 } D ty kK kV [.int a, .int b, va_rf q] [] [] sz a := by
  have hc : (lg_sl [.int a, .int b, va_rf q]).length ≤ 3 := by cases q <;> exact Nat.le_refl 3
  have hv : lv_args 0 [.int a, .int b, va_rf q] = [(0, .int a), (1, .int b), (2, va_rf q)] := rfl
  refine mkI (cc := cJ3_checkIndex_8e157) (maxL := 3) (rt := .int) (own := RJ3) (by decide) rfl rfl hc ?_
  intro p e s m args below meth c A Z ls hx hb hml hown hts hK hN hX hP hD hA hS hret hl
  rw [hv] at hl
  refine lv_iload_n hx hb dJ3_checkIndex_8e157_0 rfl (lv_at hl 0 rfl) ?_
  refine lv_if_lt (tgt := 9) hx hb dJ3_checkIndex_8e157_1 (by decide) (fun c => absurd c h0) (fun c => ?_)
  refine lv_iload_n hx hb dJ3_checkIndex_8e157_4 rfl (lv_at hl 0 rfl) ?_
  refine lv_iload_n hx hb dJ3_checkIndex_8e157_5 rfl (lv_at hl 1 rfl) ?_
  refine lv_icmp_lt (tgt := 16) hx hb dJ3_checkIndex_8e157_6 (by decide) (fun c => ?_) (fun c => absurd h1 c)
  refine lv_iload_n hx hb dJ3_checkIndex_8e157_16 rfl (lv_at hl 0 rfl) ?_
  exact hret _ _ _ _ hP hS rfl dJ3_checkIndex_8e157_17
set_option maxHeartbeats 4000000 in
set_option maxRecDepth 100000 in
theorem ctJ0_checkIndex (l : Launch) (D : va_G) (ty : List (ClassId × FieldType)) (kK kV : Nat → Nat) (sz : Nat) (a b : Int32) (h0 : ¬ a < 0) (h1 : a < b) : CtV l yJ0_checkIndex_df160 wsJ0_checkIndex_df160 { frames := 1, cells := 0, slots := 0, locals := 22 } D ty kK kV [.int a, .int b] [] [] sz := by
  refine mkV (cc := cJ0_checkIndex_df160) (maxL := 2) (own := RJ0) (by decide) rfl rfl (Nat.le_of_ble_eq_true rfl) ?_
  intro p e s m args below meth c A Z ls hx hb hml hown hts hK hN hX hP hD hA hS hret hl
  have hl : lv_has ls 2 [(0, .int a), (1, .int b)] := hl
  have fl := hts (.fieldLink RJ0 1053 "jdk/internal/util/Preconditions" "SIOOBE_FORMATTER" "Ljava/util/function/BiFunction;") (by decide +kernel)
  obtain ⟨q, hq⟩ : ∃ q : Option Nat, va_Z "jdk/internal/util/Preconditions" "SIOOBE_FORMATTER" "Ljava/util/function/BiFunction;" (va_rf q) A s s.heap := by
    rcases hX.2.2.2 with h | ⟨t, h⟩
    · exact ⟨none, h⟩
    · exact ⟨some t, h⟩
  refine lv_iload_n hx hb dJ0_checkIndex_df160_0 rfl (lv_at hl 0 rfl) ?_
  refine lv_iload_n hx hb dJ0_checkIndex_df160_1 rfl (lv_at hl 1 rfl) ?_
  refine va_gets hx hb hq hS hown fl (fun _ h => h) dJ0_checkIndex_df160_2 ?_
  refine callSI (rest := []) ⟨hx, hb, hml, hown, hts⟩ (ctJ3_checkIndex l D ty kK kV _ a b q h0 h1) (va_cwS 3 hts gJ0_checkIndex_df160_J3_checkIndex_8e157 rfl rfl rfl (by decide +kernel) ⟨Nat.le_of_ble_eq_true rfl, Nat.le_of_ble_eq_true rfl⟩) hK hN hX hP hD hS hA [] rfl (by decide) [] [] rfl rfl 0 rfl (by decide) rfl hl.1 rfl (Nat.le_of_ble_eq_true rfl) ⟨Nat.zero_le _, Nat.zero_le _⟩ dJ0_checkIndex_df160_5 (fun H locs hP hS => ?_)
  refine lv_pop hx hb dJ0_checkIndex_df160_8 rfl ?_
  exact hret _ _ _ _ hP hS dJ0_checkIndex_df160_9
set_option maxHeartbeats 4000000 in
set_option maxRecDepth 100000 in
theorem ctJ1_charAt (l : Launch) (D : va_G) (ty : List (ClassId × FieldType)) (kK kV : Nat → Nat) (sz i : Nat) (hi : i < 4) (j : Int32) (hj : vp_in j (lenS.getD i 0)) : CtI l yJ1_charAt_3b067 wsJ1_charAt_3b067 { frames := 2, cells := 0, slots := 0, locals := 43 } D ty kK kV [.ref (kV i), .int j] [] [] sz (chS i j.toNatClampNeg) := by
  refine mkI (cc := cJ1_charAt_3b067) (maxL := 2) (rt := .char) (own := RJ1) (by decide) rfl rfl (Nat.le_of_ble_eq_true rfl) ?_
  intro p e s m args below meth c A Z ls hx hb hml hown hts hK hN hX hP hD hA hS hret hl
  have hl : lv_has ls 2 [(0, .ref (kV i)), (1, .int j)] := hl
  obtain ⟨hn, hc⟩ := byS_ok i hi
  obtain ⟨k, hk, rfl⟩ := vp_in_of hj hn
  have hck := hc k hk
  rw [nI_clamp (by omega)] at hret
  refine lv_iload_n hx hb dJ1_charAt_3b067_0 rfl (lv_at hl 1 rfl) ?_
  refine lv_aload_n hx hb dJ1_charAt_3b067_1 rfl (lv_at hl 0 rfl) ?_
  refine va_tlen hx hb (hX.1.1 i hi).2.2.2 hS rfl dJ1_charAt_3b067_2 ?_
  refine callSV (rest := []) ⟨hx, hb, hml, hown, hts⟩ (ctJ0_checkIndex l D ty kK kV _ (nI k) (Int32.ofNat (lenS.getD i 0)) (nI_pos (by omega)) (nI_lt hk hn)) (va_cwS 2 hts gJ1_charAt_3b067_J0_checkIndex_df160 rfl rfl rfl (by decide +kernel) ⟨Nat.le_of_ble_eq_true rfl, Nat.le_of_ble_eq_true rfl⟩) hK hN hX hP hD hS hA [] rfl (by decide) [] [] rfl rfl 0 rfl (by decide) rfl hl.1 rfl (Nat.le_of_ble_eq_true rfl) ⟨Nat.zero_le _, Nat.zero_le _⟩ dJ1_charAt_3b067_3 (fun H locs hP hS => ?_)
  refine lv_aload_n hx hb dJ1_charAt_3b067_6 rfl (lv_at hl 0 rfl) ?_
  refine lv_iload_n hx hb dJ1_charAt_3b067_7 rfl (lv_at hl 1 rfl) ?_
  refine va_tb (v := .int (chS i k)) hx hb (hX.1.1 i hi).2.2.2 hS hj (by rw [nI_clamp (by omega)]; rfl) dJ1_charAt_3b067_8 ?_
  refine lv_sipush (v := 255) hx hb dJ1_charAt_3b067_9 (by decide) ?_
  refine lv_iand hx hb dJ1_charAt_3b067_12 ?_
  refine lv_i2c (v := chS i k) hx hb dJ1_charAt_3b067_13 hck.1 ?_
  exact hret _ _ _ _ hP hS hck.2 dJ1_charAt_3b067_14
set_option maxHeartbeats 4000000 in
set_option maxRecDepth 100000 in
theorem ctJ0_charAt (l : Launch) (D : va_G) (ty : List (ClassId × FieldType)) (kK kV : Nat → Nat) (sz i : Nat) (hi : i < 4) (j : Int32) (hj : vp_in j (lenS.getD i 0)) : CtI l yJ0_charAt_5068e wsJ0_charAt_5068e { frames := 3, cells := 0, slots := 0, locals := 64 } D ty kK kV [.ref (kK i), .int j] [] [] sz (chS i j.toNatClampNeg) := by
  have hcn : narrow .char (.int (chS i j.toNatClampNeg)) = .int (chS i j.toNatClampNeg) := by
    obtain ⟨hn, hc⟩ := byS_ok i hi
    obtain ⟨k, hk, rfl⟩ := vp_in_of hj hn
    rw [nI_clamp (by omega)]
    exact (hc k hk).2
  refine mkI (cc := cJ0_charAt_5068e) (maxL := 2) (rt := .char) (own := RJ0) (by decide) rfl rfl (Nat.le_of_ble_eq_true rfl) ?_
  intro p e s m args below meth c A Z ls hx hb hml hown hts hK hN hX hP hD hA hS hret hl
  have hl : lv_has ls 2 [(0, .ref (kK i)), (1, .int j)] := hl
  have fl9 := hts (.fieldLink RJ0 9 "java/lang/String" "value" "[B") (by decide +kernel)
  refine lv_aload_n hx hb dJ0_charAt_5068e_0 rfl (lv_at hl 0 rfl) ?_
  refine callVI (rest := []) ⟨hx, hb, hml, hown, hts⟩ (ctJ0_isLatin1 l D ty kK kV _ i hi) (cwV 0 hts gJ0_charAt_5068e_J0_isLatin1_aae02 rfl rfl rfl (by decide +kernel) ⟨Nat.le_of_ble_eq_true rfl, Nat.le_of_ble_eq_true rfl⟩) hK hN hX hP hD hS hA [] rfl (by decide) [] [] rfl rfl 0 rfl (by decide) (vk_recv hX.1 hi hS) rfl hl.1 rfl (Nat.le_of_ble_eq_true rfl) ⟨Nat.zero_le _, Nat.zero_le _⟩ dJ0_charAt_5068e_1 (fun H locs hP hS => ?_)
  refine lv_if_eq (tgt := 16) hx hb dJ0_charAt_5068e_4 (by decide) (fun c => absurd c (by decide)) (fun c => ?_)
  refine lv_aload_n hx hb dJ0_charAt_5068e_7 rfl (lv_at hl 0 rfl) ?_
  refine vk_getf hx hb (hX.1.1 i hi).2.2.1 hS hown fl9 (fun _ h => h) dJ0_charAt_5068e_8 ?_
  refine lv_iload_n hx hb dJ0_charAt_5068e_11 rfl (lv_at hl 1 rfl) ?_
  refine callSI (rest := []) ⟨hx, hb, hml, hown, hts⟩ (ctJ1_charAt l D ty kK kV _ i hi j hj) (va_cwS 2 hts gJ0_charAt_5068e_J1_charAt_3b067 rfl rfl rfl (by decide +kernel) ⟨Nat.le_of_ble_eq_true rfl, Nat.le_of_ble_eq_true rfl⟩) hK hN hX hP hD hS hA [] rfl (by decide) [] [] rfl rfl 0 rfl (by decide) rfl hl.1 rfl (Nat.le_of_ble_eq_true rfl) ⟨Nat.zero_le _, Nat.zero_le _⟩ dJ0_charAt_5068e_12 (fun H locs hP hS => ?_)
  exact hret _ _ _ _ hP hS hcn dJ0_charAt_5068e_15
