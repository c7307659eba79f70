def fX8_goBack (N : Nat) (ft_isKept : Nat → Int32) (ft_w : Nat → Int32) (x1 : Int32) : Option (Int32 × (Nat → Int32)) := bd (fX8_in N (Int32.toInt64 x1) 0 1) fun r1 => (if r1 = 0 then some ((-1000000001), ft_w) else ck x1 2 ((if (ft_isKept (Int32.toNatClampNeg x1)) = 0 then some ((-1000000003), ft_w) else bd (fX8_copy N ft_w (120 + (60 * x1)) 0) fun g6 => some (1, g6))))
set_option maxHeartbeats 4000000 in
set_option maxRecDepth 100000 in
theorem ctX8_goBack (l : Launch) (D : va_G) (cI cZ cB cS : ClassId) (kK kV : Nat → Nat) (sz : Nat) (qt qt_w qt_isKept qt_value qt_weight qt_newTube qt_newPrice qt_newLow qt_newHigh qt_newGoods qt_rhythm qt_rhythmLong qt_slug qt_text qt_of qt_buyerColumn qt_buyerKind qt_buyerCoins qt_tryRow qt_tryLong qt_tryFree : Nat) (it_kinds : Int32) (it_columns : Int32) (it_slugs : Int32) (it_newKinds : Int32) (it_newColumns : Int32) (it_newSlugs : Int32) (it_rhythmTold : Int32) (it_textSize : Int32) (it_at : Int32) (it_first : Int32) (it_length : Int32) (it_faultOf : Int32) (it_fault : Int32) (it_buyerMany : Int32) (it_tryMany : Int32) (ft_isKept : Nat → Int32) (ft_w : Nat → Int32) (x1 : Int32) (N : Nat) (r0 : Int32) (w_ft_w : Nat → Int32) (h : fX8_goBack N ft_isKept ft_w x1 = some (r0, w_ft_w)) : CtI l yX8_goBack wsX8_goBack { frames := 1, cells := 0, slots := 0, locals := 25 } D (TY cI cZ cB cS) kK kV [.ref qt, .int x1] [(qt, .inr (8, [.ref qt_w, .ref qt_isKept, .ref qt_value, .ref qt_weight, .ref qt_newTube, .ref qt_newPrice, .ref qt_newLow, .ref qt_newHigh, .ref qt_newGoods, .ref qt_rhythm, .ref qt_rhythmLong, .ref qt_slug, .int it_kinds, .int it_columns, .int it_slugs, .int it_newKinds, .int it_newColumns, .int it_newSlugs, .int it_rhythmTold, .ref qt_text, .int it_textSize, .int it_at, .int it_first, .int it_length, .int it_faultOf, .int it_fault, .ref qt_of, .ref qt_buyerColumn, .ref qt_buyerKind, .ref qt_buyerCoins, .int it_buyerMany, .ref qt_tryRow, .ref qt_tryLong, .ref qt_tryFree, .int it_tryMany])), (qt_isKept, .inl (cZ, 2, .inl ft_isKept)), (qt_w, .inl (cI, 240, .inl ft_w))] [(qt, .inr (8, [.ref qt_w, .ref qt_isKept, .ref qt_value, .ref qt_weight, .ref qt_newTube, .ref qt_newPrice, .ref qt_newLow, .ref qt_newHigh, .ref qt_newGoods, .ref qt_rhythm, .ref qt_rhythmLong, .ref qt_slug, .int it_kinds, .int it_columns, .int it_slugs, .int it_newKinds, .int it_newColumns, .int it_newSlugs, .int it_rhythmTold, .ref qt_text, .int it_textSize, .int it_at, .int it_first, .int it_length, .int it_faultOf, .int it_fault, .ref qt_of, .ref qt_buyerColumn, .ref qt_buyerKind, .ref qt_buyerCoins, .int it_buyerMany, .ref qt_tryRow, .ref qt_tryLong, .ref qt_tryFree, .int it_tryMany])), (qt_isKept, .inl (cZ, 2, .inl ft_isKept)), (qt_w, .inl (cI, 240, .inl w_ft_w))] sz r0 := by
  refine mkI (cc := cX8_goBack) (maxL := 2) (rt := .int) (own := RX8) (by decide) rfl rfl (Nat.le_of_ble_eq_true rfl) ?_
  intro p e s m args below meth c A Z ls hx hb hml hown hts hK hN hX hP hD hA hS hret hl
  have hl : lv_has ls 2 [(0, .ref qt), (1, .int x1)] := hl
  have fl13 : (Cond.fieldLink RX8 13 "SoupWallModel" "isKept" "[Z").before args s = true := hts _ (List.mem_of_getElem? (l := wsX8_goBack) (i := 2) rfl)
  have hiX8 : ∀ w ∈ wsX80, w ∈ wsX8_goBack := fun w h => List.mem_cons_of_mem _ (List.mem_append_right _ h)
  have cn228 : (Cond.constant RX8 228 (-1000000003)).before args s = true := hts _ (List.mem_of_getElem? (l := wsX8_goBack) (i := 3) rfl)
  have cn193 : (Cond.constant RX8 193 (-1000000001)).before args s = true := hts _ (List.mem_of_getElem? (l := wsX8_goBack) (i := 1) rfl)
  unfold fX8_goBack at h
  refine lv_iload_n hx hb dX8_goBack_0 rfl (lv_at hl 1 rfl) ?_
  refine lv_i2l (v := Int32.toInt64 x1) hx hb dX8_goBack_1 rfl ?_
  refine lv_lconst (v := 0) hx hb dX8_goBack_2 (by decide) ?_
  refine lv_lconst (v := 1) hx hb dX8_goBack_3 (by decide) ?_
  obtain ⟨r1, hc2, h⟩ := bd_el h
  refine callSI (rest := []) ⟨hx, hb, hml, hown, hts⟩ (ctX8_in l D cI cZ cB cS kK kV _ (Int32.toInt64 x1) 0 1 N r1 hc2) (va_cwS 3 hts gX8_goBack_X8_in rfl rfl rfl hdX8_in ⟨Nat.le_of_ble_eq_true rfl, Nat.le_of_ble_eq_true rfl⟩) hK hN hX hP (dF hD rfl) hS hA [] mcN (by decide +kernel) [(qt, .inr (8, [.ref qt_w, .ref qt_isKept, .ref qt_value, .ref qt_weight, .ref qt_newTube, .ref qt_newPrice, .ref qt_newLow, .ref qt_newHigh, .ref qt_newGoods, .ref qt_rhythm, .ref qt_rhythmLong, .ref qt_slug, .int it_kinds, .int it_columns, .int it_slugs, .int it_newKinds, .int it_newColumns, .int it_newSlugs, .int it_rhythmTold, .ref qt_text, .int it_textSize, .int it_at, .int it_first, .int it_length, .int it_faultOf, .int it_fault, .ref qt_of, .ref qt_buyerColumn, .ref qt_buyerKind, .ref qt_buyerCoins, .int it_buyerMany, .ref qt_tryRow, .ref qt_tryLong, .ref qt_tryFree, .int it_tryMany])), (qt_isKept, .inl (cZ, 2, .inl ft_isKept)), (qt_w, .inl (cI, 240, .inl ft_w))] [0, 1, 2] mcN ((mcC rfl (mcC rfl (mcC rfl mcN))).trans (mcC rfl (mcC rfl (mcC rfl mcN))).symm) 3 rfl (by decide +kernel) rfl hl.1 rfl (Nat.le_of_ble_eq_true rfl) ⟨Nat.zero_le _, Nat.zero_le _⟩ dX8_goBack_4 (fun H locs hP hS => ?_)
  refine lv_if_ne (tgt := 13) hx hb dX8_goBack_7 (by decide) (fun c3 => ?_) (fun c3 => ?_)
  · have h := if_f c3 h
    refine lv_aload_n hx hb dX8_goBack_13 rfl (lv_at hl 0 rfl) ?_
    refine va_get (ci := 8) (v := .ref qt_isKept) (C := RX8) (T := TX8) (N := 35) hx hb hts hiX8 hown hK hP 0 rfl rfl 1 (by decide) fl13 (fun _ h9 => h9) rfl dX8_goBack_14 ?_
    refine lv_iload_n hx hb dX8_goBack_17 rfl (lv_at hl 1 rfl) ?_
    obtain ⟨hi4, h⟩ := ck_el h
    refine va_zald hx hb hK hP 1 1 rfl rfl hi4 dX8_goBack_18 ?_
    refine lv_if_ne (tgt := 25) hx hb dX8_goBack_19 (by decide) (fun c5 => ?_) (fun c5 => ?_)
    · have h := if_f c5 h
      refine lv_aload_n hx hb dX8_goBack_25 rfl (lv_at hl 0 rfl) ?_
      refine lv_bipush (v := 120) hx hb dX8_goBack_26 (by decide) ?_
      refine lv_bipush (v := 60) hx hb dX8_goBack_28 (by decide) ?_
      refine lv_iload_n hx hb dX8_goBack_30 rfl (lv_at hl 1 rfl) ?_
      refine lv_imul hx hb dX8_goBack_31 ?_
      refine lv_iadd hx hb dX8_goBack_32 ?_
      refine lv_iconst (v := 0) hx hb dX8_goBack_33 (by decide) ?_
      obtain ⟨g6, hc7, h⟩ := bd_el h
      refine callVV (rest := []) ⟨hx, hb, hml, hown, hts⟩ (ctX8_copy l D cI cZ cB cS kK kV _ qt qt_w qt_isKept qt_value qt_weight qt_newTube qt_newPrice qt_newLow qt_newHigh qt_newGoods qt_rhythm qt_rhythmLong qt_slug qt_text qt_of qt_buyerColumn qt_buyerKind qt_buyerCoins qt_tryRow qt_tryLong qt_tryFree it_kinds it_columns it_slugs it_newKinds it_newColumns it_newSlugs it_rhythmTold it_textSize it_at it_first it_length it_faultOf it_fault it_buyerMany it_tryMany ft_w (120 + (60 * x1)) 0 N g6 hc7) (cwV 2 hts gX8_goBack_X8_copy rfl rfl rfl hdX8_copy ⟨Nat.le_of_ble_eq_true rfl, Nat.le_of_ble_eq_true rfl⟩) hK hN hX hP (dF hD rfl) hS hA [0, 2] (mcC rfl (mcC rfl mcN)) (by decide +kernel) [(qt, .inr (8, [.ref qt_w, .ref qt_isKept, .ref qt_value, .ref qt_weight, .ref qt_newTube, .ref qt_newPrice, .ref qt_newLow, .ref qt_newHigh, .ref qt_newGoods, .ref qt_rhythm, .ref qt_rhythmLong, .ref qt_slug, .int it_kinds, .int it_columns, .int it_slugs, .int it_newKinds, .int it_newColumns, .int it_newSlugs, .int it_rhythmTold, .ref qt_text, .int it_textSize, .int it_at, .int it_first, .int it_length, .int it_faultOf, .int it_fault, .ref qt_of, .ref qt_buyerColumn, .ref qt_buyerKind, .ref qt_buyerCoins, .int it_buyerMany, .ref qt_tryRow, .ref qt_tryLong, .ref qt_tryFree, .int it_tryMany])), (qt_isKept, .inl (cZ, 2, .inl ft_isKept)), (qt_w, .inl (cI, 240, .inl g6))] [1] (mcC rfl (mcC rfl mcN)) ((mcC rfl mcN).trans (mcC rfl mcN).symm) 3 rfl (by decide +kernel) (va_recv hK hP (ci := 8) (q0 := 0) rfl rfl) rfl hl.1 rfl (Nat.le_of_ble_eq_true rfl) ⟨Nat.zero_le _, Nat.zero_le _⟩ dX8_goBack_34 (fun H locs hP hS => ?_)
      refine lv_iconst (v := 1) hx hb dX8_goBack_37 (by decide) ?_
      cases h
      exact hret _ _ _ _ hP hS rfl dX8_goBack_38
    · have h := if_t c5 h
      refine lv_ldc (v := (-1000000003)) hx hb hown cn228 dX8_goBack_22 ?_
      cases h
      exact hret _ _ _ _ hP hS rfl dX8_goBack_24
  · have h := if_t c3 h
    refine lv_ldc (v := (-1000000001)) hx hb hown cn193 dX8_goBack_10 ?_
    cases h
    exact hret _ _ _ _ hP hS rfl dX8_goBack_12
theorem hdX8_goBack : yX8_goBack.cls = RX8 ∧ yX8_goBack.cls ≠ "java/lang/invoke/MethodHandle" ∧ yX8_goBack.cls ≠ "java/lang/invoke/VarHandle" ∧ (parseMethodDescriptor yX8_goBack.desc).map (fun d => d.parameters.length) = some 1 := by decide +kernel
