noncomputable def fX8_price (N : Nat) (it_columns : Int32) (ft_w : Nat → Int32) (x1 : Int32) (x2 : Int32) : Option (Int32 × (Nat → Int32)) := bd (fX8_isColumn N it_columns x1) fun r1 => (if r1 = 0 then some ((-1000000001), ft_w) else bd (fX8_in N (Int32.toInt64 x2) 1 99) fun r4 => (if r4 = 0 then some ((-1000000002), ft_w) else bd (fX8_set N ft_w (25 + x1) x2) fun (r7, g8) => some (r7, g8)))
set_option maxHeartbeats 4000000 in
set_option maxRecDepth 100000 in
theorem ctX8_price (l : Launch) (D : va_G) (cI cZ cB cS : ClassId) (kK kV : Nat → Nat) (sz : Nat) (qt qt_w qt_isKept qt_value qt_weight qt_newTube qt_newPrice qt_newLow qt_newHigh qt_newGoods qt_rhythm qt_rhythmLong qt_slug qt_text qt_of qt_buyerColumn qt_buyerKind qt_buyerCoins qt_tryRow qt_tryLong qt_tryFree : Nat) (it_kinds : Int32) (it_columns : Int32) (it_slugs : Int32) (it_newKinds : Int32) (it_newColumns : Int32) (it_newSlugs : Int32) (it_rhythmTold : Int32) (it_textSize : Int32) (it_at : Int32) (it_first : Int32) (it_length : Int32) (it_faultOf : Int32) (it_fault : Int32) (it_buyerMany : Int32) (it_tryMany : Int32) (ft_w : Nat → Int32) (x1 : Int32) (x2 : Int32) (N : Nat) (r0 : Int32) (w_ft_w : Nat → Int32) (h : fX8_price N it_columns ft_w x1 x2 = some (r0, w_ft_w)) : CtI l yX8_price wsX8_price { frames := 2, cells := 0, slots := 0, locals := 46 } D (TY cI cZ cB cS) kK kV [.ref qt, .int x1, .int x2] [(qt, .inr (8, [.ref qt_w, .ref qt_isKept, .ref qt_value, .ref qt_weight, .ref qt_newTube, .ref qt_newPrice, .ref qt_newLow, .ref qt_newHigh, .ref qt_newGoods, .ref qt_rhythm, .ref qt_rhythmLong, .ref qt_slug, .int it_kinds, .int it_columns, .int it_slugs, .int it_newKinds, .int it_newColumns, .int it_newSlugs, .int it_rhythmTold, .ref qt_text, .int it_textSize, .int it_at, .int it_first, .int it_length, .int it_faultOf, .int it_fault, .ref qt_of, .ref qt_buyerColumn, .ref qt_buyerKind, .ref qt_buyerCoins, .int it_buyerMany, .ref qt_tryRow, .ref qt_tryLong, .ref qt_tryFree, .int it_tryMany])), (qt_w, .inl (cI, 240, .inl ft_w))] [(qt, .inr (8, [.ref qt_w, .ref qt_isKept, .ref qt_value, .ref qt_weight, .ref qt_newTube, .ref qt_newPrice, .ref qt_newLow, .ref qt_newHigh, .ref qt_newGoods, .ref qt_rhythm, .ref qt_rhythmLong, .ref qt_slug, .int it_kinds, .int it_columns, .int it_slugs, .int it_newKinds, .int it_newColumns, .int it_newSlugs, .int it_rhythmTold, .ref qt_text, .int it_textSize, .int it_at, .int it_first, .int it_length, .int it_faultOf, .int it_fault, .ref qt_of, .ref qt_buyerColumn, .ref qt_buyerKind, .ref qt_buyerCoins, .int it_buyerMany, .ref qt_tryRow, .ref qt_tryLong, .ref qt_tryFree, .int it_tryMany])), (qt_w, .inl (cI, 240, .inl w_ft_w))] sz r0 := by
  refine mkI (cc := cX8_price) (maxL := 3) (rt := .int) (own := RX8) (by decide) rfl rfl (Nat.le_of_ble_eq_true rfl) ?_
  intro p e s m args below meth c A Z ls hx hb hml hown hts hK hN hX hP hD hA hS hret hl
  have hl : lv_has ls 3 [(0, .ref qt), (1, .int x1), (2, .int x2)] := hl
  have cn222 : (Cond.constantLong RX8 222 (99)).before args s = true := hts _ (List.mem_of_getElem? (l := wsX8_price) (i := 2) rfl)
  have cn81 : (Cond.constant RX8 81 (-1000000002)).before args s = true := hts _ (List.mem_of_getElem? (l := wsX8_price) (i := 3) rfl)
  have cn193 : (Cond.constant RX8 193 (-1000000001)).before args s = true := hts _ (List.mem_of_getElem? (l := wsX8_price) (i := 1) rfl)
  unfold fX8_price at h
  refine lv_aload_n hx hb dX8_price_0 rfl (lv_at hl 0 rfl) ?_
  refine lv_iload_n hx hb dX8_price_1 rfl (lv_at hl 1 rfl) ?_
  replace h := bd_el h
  obtain ⟨r1, hc2, h⟩ := h
  refine callVI (rest := []) ⟨hx, hb, hml, hown, hts⟩ (ctX8_isColumn l D cI cZ cB cS kK kV _ qt qt_w qt_isKept qt_value qt_weight qt_newTube qt_newPrice qt_newLow qt_newHigh qt_newGoods qt_rhythm qt_rhythmLong qt_slug qt_text qt_of qt_buyerColumn qt_buyerKind qt_buyerCoins qt_tryRow qt_tryLong qt_tryFree it_kinds it_columns it_slugs it_newKinds it_newColumns it_newSlugs it_rhythmTold it_textSize it_at it_first it_length it_faultOf it_fault it_buyerMany it_tryMany x1 N r1 hc2) (cwV 1 hts gX8_price_X8_isColumn rfl rfl rfl hdX8_isColumn ⟨Nat.le_of_ble_eq_true rfl, Nat.le_of_ble_eq_true rfl⟩) hK hN hX hP (dF hD rfl) hS hA [0] (mcC rfl mcN) (by decide +kernel) [(qt, .inr (8, [.ref qt_w, .ref qt_isKept, .ref qt_value, .ref qt_weight, .ref qt_newTube, .ref qt_newPrice, .ref qt_newLow, .ref qt_newHigh, .ref qt_newGoods, .ref qt_rhythm, .ref qt_rhythmLong, .ref qt_slug, .int it_kinds, .int it_columns, .int it_slugs, .int it_newKinds, .int it_newColumns, .int it_newSlugs, .int it_rhythmTold, .ref qt_text, .int it_textSize, .int it_at, .int it_first, .int it_length, .int it_faultOf, .int it_fault, .ref qt_of, .ref qt_buyerColumn, .ref qt_buyerKind, .ref qt_buyerCoins, .int it_buyerMany, .ref qt_tryRow, .ref qt_tryLong, .ref qt_tryFree, .int it_tryMany])), (qt_w, .inl (cI, 240, .inl ft_w))] [1] (mcC rfl mcN) ((mcC rfl mcN).trans (mcC rfl mcN).symm) 2 rfl (by decide +kernel) (va_recv hK hP (ci := 8) (q0 := 0) rfl rfl) rfl hl.1 rfl (Nat.le_of_ble_eq_true rfl) ⟨Nat.zero_le _, Nat.zero_le _⟩ dX8_price_2 (fun H locs hP hS => ?_)
  refine lv_if_ne (tgt := 13) hx hb dX8_price_5 (by decide) (fun c3 => ?_) (fun c3 => ?_)
  · replace h := if_f c3 h
    refine lv_iload_n hx hb dX8_price_13 rfl (lv_at hl 2 rfl) ?_
    refine lv_i2l (v := Int32.toInt64 x2) hx hb dX8_price_14 rfl ?_
    refine lv_lconst (v := 1) hx hb dX8_price_15 (by decide) ?_
    refine lv_ldc2 (v := 99) hx hb hown cn222 dX8_price_16 ?_
    replace h := bd_el h
    obtain ⟨r4, hc5, h⟩ := h
    refine callSI (rest := []) ⟨hx, hb, hml, hown, hts⟩ (ctX8_in l D cI cZ cB cS kK kV _ (Int32.toInt64 x2) 1 99 N r4 hc5) (va_cwS 3 hts gX8_price_X8_in rfl rfl rfl hdX8_in ⟨Nat.le_of_ble_eq_true rfl, Nat.le_of_ble_eq_true rfl⟩) hK hN hX hP (dF hD rfl) hS hA [] mcN (by decide +kernel) [(qt, .inr (8, [.ref qt_w, .ref qt_isKept, .ref qt_value, .ref qt_weight, .ref qt_newTube, .ref qt_newPrice, .ref qt_newLow, .ref qt_newHigh, .ref qt_newGoods, .ref qt_rhythm, .ref qt_rhythmLong, .ref qt_slug, .int it_kinds, .int it_columns, .int it_slugs, .int it_newKinds, .int it_newColumns, .int it_newSlugs, .int it_rhythmTold, .ref qt_text, .int it_textSize, .int it_at, .int it_first, .int it_length, .int it_faultOf, .int it_fault, .ref qt_of, .ref qt_buyerColumn, .ref qt_buyerKind, .ref qt_buyerCoins, .int it_buyerMany, .ref qt_tryRow, .ref qt_tryLong, .ref qt_tryFree, .int it_tryMany])), (qt_w, .inl (cI, 240, .inl ft_w))] [0, 1] mcN ((mcC rfl (mcC rfl mcN)).trans (mcC rfl (mcC rfl mcN)).symm) 2 rfl (by decide +kernel) rfl hl.1 rfl (Nat.le_of_ble_eq_true rfl) ⟨Nat.zero_le _, Nat.zero_le _⟩ dX8_price_19 (fun H locs hP hS => ?_)
    refine lv_if_eq (tgt := 37) hx hb dX8_price_22 (by decide) (fun c6 => ?_) (fun c6 => ?_)
    · replace h := if_t c6 h
      refine lv_ldc (v := (-1000000002)) hx hb hown cn81 dX8_price_37 ?_
      simp only [Option.some.injEq, Prod.mk.injEq] at h
      obtain ⟨rfl, rfl⟩ := h
      exact hret _ _ _ _ hP hS rfl dX8_price_39
    · replace h := if_f c6 h
      refine lv_aload_n hx hb dX8_price_25 rfl (lv_at hl 0 rfl) ?_
      refine lv_bipush (v := 25) hx hb dX8_price_26 (by decide) ?_
      refine lv_iload_n hx hb dX8_price_28 rfl (lv_at hl 1 rfl) ?_
      refine lv_iadd hx hb dX8_price_29 ?_
      refine lv_iload_n hx hb dX8_price_30 rfl (lv_at hl 2 rfl) ?_
      replace h := bd_el h
      obtain ⟨⟨r7, g8⟩, hc9, h⟩ := h
      refine callVI (rest := []) ⟨hx, hb, hml, hown, hts⟩ (ctX8_set l D cI cZ cB cS kK kV _ qt qt_w qt_isKept qt_value qt_weight qt_newTube qt_newPrice qt_newLow qt_newHigh qt_newGoods qt_rhythm qt_rhythmLong qt_slug qt_text qt_of qt_buyerColumn qt_buyerKind qt_buyerCoins qt_tryRow qt_tryLong qt_tryFree it_kinds it_columns it_slugs it_newKinds it_newColumns it_newSlugs it_rhythmTold it_textSize it_at it_first it_length it_faultOf it_fault it_buyerMany it_tryMany ft_w (25 + x1) x2 N r7 g8 hc9) (cwV 2 hts gX8_price_X8_set rfl rfl rfl hdX8_set ⟨Nat.le_of_ble_eq_true rfl, Nat.le_of_ble_eq_true rfl⟩) hK hN hX hP (dF hD rfl) hS hA [0, 1] (mcC rfl (mcC rfl mcN)) (by decide +kernel) [(qt, .inr (8, [.ref qt_w, .ref qt_isKept, .ref qt_value, .ref qt_weight, .ref qt_newTube, .ref qt_newPrice, .ref qt_newLow, .ref qt_newHigh, .ref qt_newGoods, .ref qt_rhythm, .ref qt_rhythmLong, .ref qt_slug, .int it_kinds, .int it_columns, .int it_slugs, .int it_newKinds, .int it_newColumns, .int it_newSlugs, .int it_rhythmTold, .ref qt_text, .int it_textSize, .int it_at, .int it_first, .int it_length, .int it_faultOf, .int it_fault, .ref qt_of, .ref qt_buyerColumn, .ref qt_buyerKind, .ref qt_buyerCoins, .int it_buyerMany, .ref qt_tryRow, .ref qt_tryLong, .ref qt_tryFree, .int it_tryMany])), (qt_w, .inl (cI, 240, .inl g8))] [] (mcC rfl (mcC rfl mcN)) (mcN.trans mcN.symm) 2 rfl (by decide +kernel) (va_recv hK hP (ci := 8) (q0 := 0) rfl rfl) rfl hl.1 rfl (Nat.le_of_ble_eq_true rfl) ⟨Nat.zero_le _, Nat.zero_le _⟩ dX8_price_31 (fun H locs hP hS => ?_)
      refine lv_goto (tgt := 39) hx hb dX8_price_34 (by decide) ?_
      simp only [Option.some.injEq, Prod.mk.injEq] at h
      obtain ⟨rfl, rfl⟩ := h
      exact hret _ _ _ _ hP hS rfl dX8_price_39
  · replace h := if_t c3 h
    refine lv_ldc (v := (-1000000001)) hx hb hown cn193 dX8_price_8 ?_
    refine lv_goto (tgt := 39) hx hb dX8_price_10 (by decide) ?_
    simp only [Option.some.injEq, Prod.mk.injEq] at h
    obtain ⟨rfl, rfl⟩ := h
    exact hret _ _ _ _ hP hS rfl dX8_price_39
theorem hdX8_price : yX8_price.cls = RX8 ∧ yX8_price.cls ≠ "java/lang/invoke/MethodHandle" ∧ yX8_price.cls ≠ "java/lang/invoke/VarHandle" ∧ (parseMethodDescriptor yX8_price.desc).map (fun d => d.parameters.length) = some 2 := by decide +kernel

noncomputable def fX8_span (N : Nat) (it_columns : Int32) (ft_w : Nat → Int32) (x1 : Int32) (x2 : Int32) (x3 : Int32) : Option (Int32 × (Nat → Int32)) := bd (fX8_isColumn N it_columns x1) fun r1 => (if r1 = 0 then some ((-1000000001), ft_w) else bd (fX8_in N (Int32.toInt64 x2) 1 99) fun r4 => (if r4 = 0 then some ((-1000000002), ft_w) else bd (fX8_in N (Int32.toInt64 x3) (Int32.toInt64 x2) 99) fun r7 => (if r7 = 0 then some ((-1000000002), ft_w) else bd (fX8_set N ft_w (30 + x1) x2) fun (r10, g11) => bd (fX8_set N g11 (35 + x1) x3) fun (r13, g14) => lt ((100 * r10) + r13) fun n16 => some (n16, g14))))
set_option maxHeartbeats 4000000 in
set_option maxRecDepth 100000 in
theorem ctX8_span (l : Launch) (D : va_G) (cI cZ cB cS : ClassId) (kK kV : Nat → Nat) (sz : Nat) (qt qt_w qt_isKept qt_value qt_weight qt_newTube qt_newPrice qt_newLow qt_newHigh qt_newGoods qt_rhythm qt_rhythmLong qt_slug qt_text qt_of qt_buyerColumn qt_buyerKind qt_buyerCoins qt_tryRow qt_tryLong qt_tryFree : Nat) (it_kinds : Int32) (it_columns : Int32) (it_slugs : Int32) (it_newKinds : Int32) (it_newColumns : Int32) (it_newSlugs : Int32) (it_rhythmTold : Int32) (it_textSize : Int32) (it_at : Int32) (it_first : Int32) (it_length : Int32) (it_faultOf : Int32) (it_fault : Int32) (it_buyerMany : Int32) (it_tryMany : Int32) (ft_w : Nat → Int32) (x1 : Int32) (x2 : Int32) (x3 : Int32) (N : Nat) (r0 : Int32) (w_ft_w : Nat → Int32) (h : fX8_span N it_columns ft_w x1 x2 x3 = some (r0, w_ft_w)) : CtI l yX8_span wsX8_span { frames := 2, cells := 0, slots := 0, locals := 46 } D (TY cI cZ cB cS) kK kV [.ref qt, .int x1, .int x2, .int x3] [(qt, .inr (8, [.ref qt_w, .ref qt_isKept, .ref qt_value, .ref qt_weight, .ref qt_newTube, .ref qt_newPrice, .ref qt_newLow, .ref qt_newHigh, .ref qt_newGoods, .ref qt_rhythm, .ref qt_rhythmLong, .ref qt_slug, .int it_kinds, .int it_columns, .int it_slugs, .int it_newKinds, .int it_newColumns, .int it_newSlugs, .int it_rhythmTold, .ref qt_text, .int it_textSize, .int it_at, .int it_first, .int it_length, .int it_faultOf, .int it_fault, .ref qt_of, .ref qt_buyerColumn, .ref qt_buyerKind, .ref qt_buyerCoins, .int it_buyerMany, .ref qt_tryRow, .ref qt_tryLong, .ref qt_tryFree, .int it_tryMany])), (qt_w, .inl (cI, 240, .inl ft_w))] [(qt, .inr (8, [.ref qt_w, .ref qt_isKept, .ref qt_value, .ref qt_weight, .ref qt_newTube, .ref qt_newPrice, .ref qt_newLow, .ref qt_newHigh, .ref qt_newGoods, .ref qt_rhythm, .ref qt_rhythmLong, .ref qt_slug, .int it_kinds, .int it_columns, .int it_slugs, .int it_newKinds, .int it_newColumns, .int it_newSlugs, .int it_rhythmTold, .ref qt_text, .int it_textSize, .int it_at, .int it_first, .int it_length, .int it_faultOf, .int it_fault, .ref qt_of, .ref qt_buyerColumn, .ref qt_buyerKind, .ref qt_buyerCoins, .int it_buyerMany, .ref qt_tryRow, .ref qt_tryLong, .ref qt_tryFree, .int it_tryMany])), (qt_w, .inl (cI, 240, .inl w_ft_w))] sz r0 := by
  refine mkI (cc := cX8_span) (maxL := 4) (rt := .int) (own := RX8) (by decide) rfl rfl (Nat.le_of_ble_eq_true rfl) ?_
  intro p e s m args below meth c A Z ls hx hb hml hown hts hK hN hX hP hD hA hS hret hl
  have hl : lv_has ls 4 [(0, .ref qt), (1, .int x1), (2, .int x2), (3, .int x3)] := hl
  have cn222 : (Cond.constantLong RX8 222 (99)).before args s = true := hts _ (List.mem_of_getElem? (l := wsX8_span) (i := 2) rfl)
  have cn81 : (Cond.constant RX8 81 (-1000000002)).before args s = true := hts _ (List.mem_of_getElem? (l := wsX8_span) (i := 3) rfl)
  have cn193 : (Cond.constant RX8 193 (-1000000001)).before args s = true := hts _ (List.mem_of_getElem? (l := wsX8_span) (i := 1) rfl)
  unfold fX8_span at h
  refine lv_aload_n hx hb dX8_span_0 rfl (lv_at hl 0 rfl) ?_
  refine lv_iload_n hx hb dX8_span_1 rfl (lv_at hl 1 rfl) ?_
  replace h := bd_el h
  obtain ⟨r1, hc2, h⟩ := h
  refine callVI (rest := []) ⟨hx, hb, hml, hown, hts⟩ (ctX8_isColumn l D cI cZ cB cS kK kV _ qt qt_w qt_isKept qt_value qt_weight qt_newTube qt_newPrice qt_newLow qt_newHigh qt_newGoods qt_rhythm qt_rhythmLong qt_slug qt_text qt_of qt_buyerColumn qt_buyerKind qt_buyerCoins qt_tryRow qt_tryLong qt_tryFree it_kinds it_columns it_slugs it_newKinds it_newColumns it_newSlugs it_rhythmTold it_textSize it_at it_first it_length it_faultOf it_fault it_buyerMany it_tryMany x1 N r1 hc2) (cwV 1 hts gX8_span_X8_isColumn rfl rfl rfl hdX8_isColumn ⟨Nat.le_of_ble_eq_true rfl, Nat.le_of_ble_eq_true rfl⟩) hK hN hX hP (dF hD rfl) hS hA [0] (mcC rfl mcN) (by decide +kernel) [(qt, .inr (8, [.ref qt_w, .ref qt_isKept, .ref qt_value, .ref qt_weight, .ref qt_newTube, .ref qt_newPrice, .ref qt_newLow, .ref qt_newHigh, .ref qt_newGoods, .ref qt_rhythm, .ref qt_rhythmLong, .ref qt_slug, .int it_kinds, .int it_columns, .int it_slugs, .int it_newKinds, .int it_newColumns, .int it_newSlugs, .int it_rhythmTold, .ref qt_text, .int it_textSize, .int it_at, .int it_first, .int it_length, .int it_faultOf, .int it_fault, .ref qt_of, .ref qt_buyerColumn, .ref qt_buyerKind, .ref qt_buyerCoins, .int it_buyerMany, .ref qt_tryRow, .ref qt_tryLong, .ref qt_tryFree, .int it_tryMany])), (qt_w, .inl (cI, 240, .inl ft_w))] [1] (mcC rfl mcN) ((mcC rfl mcN).trans (mcC rfl mcN).symm) 2 rfl (by decide +kernel) (va_recv hK hP (ci := 8) (q0 := 0) rfl rfl) rfl hl.1 rfl (Nat.le_of_ble_eq_true rfl) ⟨Nat.zero_le _, Nat.zero_le _⟩ dX8_span_2 (fun H locs hP hS => ?_)
  refine lv_if_ne (tgt := 11) hx hb dX8_span_5 (by decide) (fun c3 => ?_) (fun c3 => ?_)
  · replace h := if_f c3 h
    refine lv_iload_n hx hb dX8_span_11 rfl (lv_at hl 2 rfl) ?_
    refine lv_i2l (v := Int32.toInt64 x2) hx hb dX8_span_12 rfl ?_
    refine lv_lconst (v := 1) hx hb dX8_span_13 (by decide) ?_
    refine lv_ldc2 (v := 99) hx hb hown cn222 dX8_span_14 ?_
    replace h := bd_el h
    obtain ⟨r4, hc5, h⟩ := h
    refine callSI (rest := []) ⟨hx, hb, hml, hown, hts⟩ (ctX8_in l D cI cZ cB cS kK kV _ (Int32.toInt64 x2) 1 99 N r4 hc5) (va_cwS 3 hts gX8_span_X8_in rfl rfl rfl hdX8_in ⟨Nat.le_of_ble_eq_true rfl, Nat.le_of_ble_eq_true rfl⟩) hK hN hX hP (dF hD rfl) hS hA [] mcN (by decide +kernel) [(qt, .inr (8, [.ref qt_w, .ref qt_isKept, .ref qt_value, .ref qt_weight, .ref qt_newTube, .ref qt_newPrice, .ref qt_newLow, .ref qt_newHigh, .ref qt_newGoods, .ref qt_rhythm, .ref qt_rhythmLong, .ref qt_slug, .int it_kinds, .int it_columns, .int it_slugs, .int it_newKinds, .int it_newColumns, .int it_newSlugs, .int it_rhythmTold, .ref qt_text, .int it_textSize, .int it_at, .int it_first, .int it_length, .int it_faultOf, .int it_fault, .ref qt_of, .ref qt_buyerColumn, .ref qt_buyerKind, .ref qt_buyerCoins, .int it_buyerMany, .ref qt_tryRow, .ref qt_tryLong, .ref qt_tryFree, .int it_tryMany])), (qt_w, .inl (cI, 240, .inl ft_w))] [0, 1] mcN ((mcC rfl (mcC rfl mcN)).trans (mcC rfl (mcC rfl mcN)).symm) 2 rfl (by decide +kernel) rfl hl.1 rfl (Nat.le_of_ble_eq_true rfl) ⟨Nat.zero_le _, Nat.zero_le _⟩ dX8_span_17 (fun H locs hP hS => ?_)
    refine lv_if_eq (tgt := 36) hx hb dX8_span_20 (by decide) (fun c6 => ?_) (fun c6 => ?_)
    · replace h := if_t c6 h
      refine lv_ldc (v := (-1000000002)) hx hb hown cn81 dX8_span_36 ?_
      simp only [Option.some.injEq, Prod.mk.injEq] at h
      obtain ⟨rfl, rfl⟩ := h
      exact hret _ _ _ _ hP hS rfl dX8_span_38
    · replace h := if_f c6 h
      refine lv_iload_n hx hb dX8_span_23 rfl (lv_at hl 3 rfl) ?_
      refine lv_i2l (v := Int32.toInt64 x3) hx hb dX8_span_24 rfl ?_
      refine lv_iload_n hx hb dX8_span_25 rfl (lv_at hl 2 rfl) ?_
      refine lv_i2l (v := Int32.toInt64 x2) hx hb dX8_span_26 rfl ?_
      refine lv_ldc2 (v := 99) hx hb hown cn222 dX8_span_27 ?_
      replace h := bd_el h
      obtain ⟨r7, hc8, h⟩ := h
      refine callSI (rest := []) ⟨hx, hb, hml, hown, hts⟩ (ctX8_in l D cI cZ cB cS kK kV _ (Int32.toInt64 x3) (Int32.toInt64 x2) 99 N r7 hc8) (va_cwS 3 hts gX8_span_X8_in rfl rfl rfl hdX8_in ⟨Nat.le_of_ble_eq_true rfl, Nat.le_of_ble_eq_true rfl⟩) hK hN hX hP (dF hD rfl) hS hA [] mcN (by decide +kernel) [(qt, .inr (8, [.ref qt_w, .ref qt_isKept, .ref qt_value, .ref qt_weight, .ref qt_newTube, .ref qt_newPrice, .ref qt_newLow, .ref qt_newHigh, .ref qt_newGoods, .ref qt_rhythm, .ref qt_rhythmLong, .ref qt_slug, .int it_kinds, .int it_columns, .int it_slugs, .int it_newKinds, .int it_newColumns, .int it_newSlugs, .int it_rhythmTold, .ref qt_text, .int it_textSize, .int it_at, .int it_first, .int it_length, .int it_faultOf, .int it_fault, .ref qt_of, .ref qt_buyerColumn, .ref qt_buyerKind, .ref qt_buyerCoins, .int it_buyerMany, .ref qt_tryRow, .ref qt_tryLong, .ref qt_tryFree, .int it_tryMany])), (qt_w, .inl (cI, 240, .inl ft_w))] [0, 1] mcN ((mcC rfl (mcC rfl mcN)).trans (mcC rfl (mcC rfl mcN)).symm) 2 rfl (by decide +kernel) rfl hl.1 rfl (Nat.le_of_ble_eq_true rfl) ⟨Nat.zero_le _, Nat.zero_le _⟩ dX8_span_30 (fun H locs hP hS => ?_)
      refine lv_if_ne (tgt := 39) hx hb dX8_span_33 (by decide) (fun c9 => ?_) (fun c9 => ?_)
      · replace h := if_f c9 h
        refine lv_bipush (v := 100) hx hb dX8_span_39 (by decide) ?_
        refine lv_aload_n hx hb dX8_span_41 rfl (lv_at hl 0 rfl) ?_
        refine lv_bipush (v := 30) hx hb dX8_span_42 (by decide) ?_
        refine lv_iload_n hx hb dX8_span_44 rfl (lv_at hl 1 rfl) ?_
        refine lv_iadd hx hb dX8_span_45 ?_
        refine lv_iload_n hx hb dX8_span_46 rfl (lv_at hl 2 rfl) ?_
        replace h := bd_el h
        obtain ⟨⟨r10, g11⟩, hc12, h⟩ := h
        refine callVI (rest := [.int 100]) ⟨hx, hb, hml, hown, hts⟩ (ctX8_set l D cI cZ cB cS kK kV _ qt qt_w qt_isKept qt_value qt_weight qt_newTube qt_newPrice qt_newLow qt_newHigh qt_newGoods qt_rhythm qt_rhythmLong qt_slug qt_text qt_of qt_buyerColumn qt_buyerKind qt_buyerCoins qt_tryRow qt_tryLong qt_tryFree it_kinds it_columns it_slugs it_newKinds it_newColumns it_newSlugs it_rhythmTold it_textSize it_at it_first it_length it_faultOf it_fault it_buyerMany it_tryMany ft_w (30 + x1) x2 N r10 g11 hc12) (cwV 2 hts gX8_span_X8_set rfl rfl rfl hdX8_set ⟨Nat.le_of_ble_eq_true rfl, Nat.le_of_ble_eq_true rfl⟩) hK hN hX hP (dF hD rfl) hS hA [0, 1] (mcC rfl (mcC rfl mcN)) (by decide +kernel) [(qt, .inr (8, [.ref qt_w, .ref qt_isKept, .ref qt_value, .ref qt_weight, .ref qt_newTube, .ref qt_newPrice, .ref qt_newLow, .ref qt_newHigh, .ref qt_newGoods, .ref qt_rhythm, .ref qt_rhythmLong, .ref qt_slug, .int it_kinds, .int it_columns, .int it_slugs, .int it_newKinds, .int it_newColumns, .int it_newSlugs, .int it_rhythmTold, .ref qt_text, .int it_textSize, .int it_at, .int it_first, .int it_length, .int it_faultOf, .int it_fault, .ref qt_of, .ref qt_buyerColumn, .ref qt_buyerKind, .ref qt_buyerCoins, .int it_buyerMany, .ref qt_tryRow, .ref qt_tryLong, .ref qt_tryFree, .int it_tryMany])), (qt_w, .inl (cI, 240, .inl g11))] [] (mcC rfl (mcC rfl mcN)) (mcN.trans mcN.symm) 2 rfl (by decide +kernel) (va_recv hK hP (ci := 8) (q0 := 0) rfl rfl) rfl hl.1 rfl (Nat.le_of_ble_eq_true rfl) ⟨Nat.zero_le _, Nat.zero_le _⟩ dX8_span_47 (fun H locs hP hS => ?_)
        refine lv_imul hx hb dX8_span_50 ?_
        refine lv_aload_n hx hb dX8_span_51 rfl (lv_at hl 0 rfl) ?_
        refine lv_bipush (v := 35) hx hb dX8_span_52 (by decide) ?_
        refine lv_iload_n hx hb dX8_span_54 rfl (lv_at hl 1 rfl) ?_
        refine lv_iadd hx hb dX8_span_55 ?_
        refine lv_iload_n hx hb dX8_span_56 rfl (lv_at hl 3 rfl) ?_
        replace h := bd_el h
        obtain ⟨⟨r13, g14⟩, hc15, h⟩ := h
        refine callVI (rest := [.int (100 * r10)]) ⟨hx, hb, hml, hown, hts⟩ (ctX8_set l D cI cZ cB cS kK kV _ qt qt_w qt_isKept qt_value qt_weight qt_newTube qt_newPrice qt_newLow qt_newHigh qt_newGoods qt_rhythm qt_rhythmLong qt_slug qt_text qt_of qt_buyerColumn qt_buyerKind qt_buyerCoins qt_tryRow qt_tryLong qt_tryFree it_kinds it_columns it_slugs it_newKinds it_newColumns it_newSlugs it_rhythmTold it_textSize it_at it_first it_length it_faultOf it_fault it_buyerMany it_tryMany g11 (35 + x1) x3 N r13 g14 hc15) (cwV 2 hts gX8_span_X8_set rfl rfl rfl hdX8_set ⟨Nat.le_of_ble_eq_true rfl, Nat.le_of_ble_eq_true rfl⟩) hK hN hX hP (dF hD rfl) hS hA [0, 1] (mcC rfl (mcC rfl mcN)) (by decide +kernel) [(qt, .inr (8, [.ref qt_w, .ref qt_isKept, .ref qt_value, .ref qt_weight, .ref qt_newTube, .ref qt_newPrice, .ref qt_newLow, .ref qt_newHigh, .ref qt_newGoods, .ref qt_rhythm, .ref qt_rhythmLong, .ref qt_slug, .int it_kinds, .int it_columns, .int it_slugs, .int it_newKinds, .int it_newColumns, .int it_newSlugs, .int it_rhythmTold, .ref qt_text, .int it_textSize, .int it_at, .int it_first, .int it_length, .int it_faultOf, .int it_fault, .ref qt_of, .ref qt_buyerColumn, .ref qt_buyerKind, .ref qt_buyerCoins, .int it_buyerMany, .ref qt_tryRow, .ref qt_tryLong, .ref qt_tryFree, .int it_tryMany])), (qt_w, .inl (cI, 240, .inl g14))] [] (mcC rfl (mcC rfl mcN)) (mcN.trans mcN.symm) 2 rfl (by decide +kernel) (va_recv hK hP (ci := 8) (q0 := 0) rfl rfl) rfl hl.1 rfl (Nat.le_of_ble_eq_true rfl) ⟨Nat.zero_le _, Nat.zero_le _⟩ dX8_span_57 (fun H locs hP hS => ?_)
        refine lv_iadd hx hb dX8_span_60 ?_
        refine lv_topi (fun n16 en16 => ?_)
        replace h := lt_at en16 h
        simp only [Option.some.injEq, Prod.mk.injEq] at h
        obtain ⟨rfl, rfl⟩ := h
        exact hret _ _ _ _ hP hS rfl dX8_span_61
      · replace h := if_t c9 h
        refine lv_ldc (v := (-1000000002)) hx hb hown cn81 dX8_span_36 ?_
        simp only [Option.some.injEq, Prod.mk.injEq] at h
        obtain ⟨rfl, rfl⟩ := h
        exact hret _ _ _ _ hP hS rfl dX8_span_38
  · replace h := if_t c3 h
    refine lv_ldc (v := (-1000000001)) hx hb hown cn193 dX8_span_8 ?_
    simp only [Option.some.injEq, Prod.mk.injEq] at h
    obtain ⟨rfl, rfl⟩ := h
    exact hret _ _ _ _ hP hS rfl dX8_span_10
theorem hdX8_span : yX8_span.cls = RX8 ∧ yX8_span.cls ≠ "java/lang/invoke/MethodHandle" ∧ yX8_span.cls ≠ "java/lang/invoke/VarHandle" ∧ (parseMethodDescriptor yX8_span.desc).map (fun d => d.parameters.length) = some 3 := by decide +kernel

noncomputable def fX8_wire (N : Nat) (it_columns : Int32) (ft_w : Nat → Int32) (x1 : Int32) (x2 : Int32) : Option (Int32 × (Nat → Int32)) := bd (fX8_isColumn N it_columns x1) fun r1 => (if r1 = 0 then some ((-1000000001), ft_w) else bd (fX8_isColumn N it_columns x2) fun r4 => (if r4 = 0 then some ((-1000000001), ft_w) else bd (fX8_set N ft_w (40 + x1) x2) fun (r7, g8) => some (r7, g8)))
set_option maxHeartbeats 4000000 in
set_option maxRecDepth 100000 in
theorem ctX8_wire (l : Launch) (D : va_G) (cI cZ cB cS : ClassId) (kK kV : Nat → Nat) (sz : Nat) (qt qt_w qt_isKept qt_value qt_weight qt_newTube qt_newPrice qt_newLow qt_newHigh qt_newGoods qt_rhythm qt_rhythmLong qt_slug qt_text qt_of qt_buyerColumn qt_buyerKind qt_buyerCoins qt_tryRow qt_tryLong qt_tryFree : Nat) (it_kinds : Int32) (it_columns : Int32) (it_slugs : Int32) (it_newKinds : Int32) (it_newColumns : Int32) (it_newSlugs : Int32) (it_rhythmTold : Int32) (it_textSize : Int32) (it_at : Int32) (it_first : Int32) (it_length : Int32) (it_faultOf : Int32) (it_fault : Int32) (it_buyerMany : Int32) (it_tryMany : Int32) (ft_w : Nat → Int32) (x1 : Int32) (x2 : Int32) (N : Nat) (r0 : Int32) (w_ft_w : Nat → Int32) (h : fX8_wire N it_columns ft_w x1 x2 = some (r0, w_ft_w)) : CtI l yX8_wire wsX8_wire { frames := 2, cells := 0, slots := 0, locals := 46 } D (TY cI cZ cB cS) kK kV [.ref qt, .int x1, .int x2] [(qt, .inr (8, [.ref qt_w, .ref qt_isKept, .ref qt_value, .ref qt_weight, .ref qt_newTube, .ref qt_newPrice, .ref qt_newLow, .ref qt_newHigh, .ref qt_newGoods, .ref qt_rhythm, .ref qt_rhythmLong, .ref qt_slug, .int it_kinds, .int it_columns, .int it_slugs, .int it_newKinds, .int it_newColumns, .int it_newSlugs, .int it_rhythmTold, .ref qt_text, .int it_textSize, .int it_at, .int it_first, .int it_length, .int it_faultOf, .int it_fault, .ref qt_of, .ref qt_buyerColumn, .ref qt_buyerKind, .ref qt_buyerCoins, .int it_buyerMany, .ref qt_tryRow, .ref qt_tryLong, .ref qt_tryFree, .int it_tryMany])), (qt_w, .inl (cI, 240, .inl ft_w))] [(qt, .inr (8, [.ref qt_w, .ref qt_isKept, .ref qt_value, .ref qt_weight, .ref qt_newTube, .ref qt_newPrice, .ref qt_newLow, .ref qt_newHigh, .ref qt_newGoods, .ref qt_rhythm, .ref qt_rhythmLong, .ref qt_slug, .int it_kinds, .int it_columns, .int it_slugs, .int it_newKinds, .int it_newColumns, .int it_newSlugs, .int it_rhythmTold, .ref qt_text, .int it_textSize, .int it_at, .int it_first, .int it_length, .int it_faultOf, .int it_fault, .ref qt_of, .ref qt_buyerColumn, .ref qt_buyerKind, .ref qt_buyerCoins, .int it_buyerMany, .ref qt_tryRow, .ref qt_tryLong, .ref qt_tryFree, .int it_tryMany])), (qt_w, .inl (cI, 240, .inl w_ft_w))] sz r0 := by
  refine mkI (cc := cX8_wire) (maxL := 3) (rt := .int) (own := RX8) (by decide) rfl rfl (Nat.le_of_ble_eq_true rfl) ?_
  intro p e s m args below meth c A Z ls hx hb hml hown hts hK hN hX hP hD hA hS hret hl
  have hl : lv_has ls 3 [(0, .ref qt), (1, .int x1), (2, .int x2)] := hl
  have cn193 : (Cond.constant RX8 193 (-1000000001)).before args s = true := hts _ (List.mem_of_getElem? (l := wsX8_wire) (i := 1) rfl)
  unfold fX8_wire at h
  refine lv_aload_n hx hb dX8_wire_0 rfl (lv_at hl 0 rfl) ?_
  refine lv_iload_n hx hb dX8_wire_1 rfl (lv_at hl 1 rfl) ?_
  replace h := bd_el h
  obtain ⟨r1, hc2, h⟩ := h
  refine callVI (rest := []) ⟨hx, hb, hml, hown, hts⟩ (ctX8_isColumn l D cI cZ cB cS kK kV _ qt qt_w qt_isKept qt_value qt_weight qt_newTube qt_newPrice qt_newLow qt_newHigh qt_newGoods qt_rhythm qt_rhythmLong qt_slug qt_text qt_of qt_buyerColumn qt_buyerKind qt_buyerCoins qt_tryRow qt_tryLong qt_tryFree it_kinds it_columns it_slugs it_newKinds it_newColumns it_newSlugs it_rhythmTold it_textSize it_at it_first it_length it_faultOf it_fault it_buyerMany it_tryMany x1 N r1 hc2) (cwV 1 hts gX8_wire_X8_isColumn rfl rfl rfl hdX8_isColumn ⟨Nat.le_of_ble_eq_true rfl, Nat.le_of_ble_eq_true rfl⟩) hK hN hX hP (dF hD rfl) hS hA [0] (mcC rfl mcN) (by decide +kernel) [(qt, .inr (8, [.ref qt_w, .ref qt_isKept, .ref qt_value, .ref qt_weight, .ref qt_newTube, .ref qt_newPrice, .ref qt_newLow, .ref qt_newHigh, .ref qt_newGoods, .ref qt_rhythm, .ref qt_rhythmLong, .ref qt_slug, .int it_kinds, .int it_columns, .int it_slugs, .int it_newKinds, .int it_newColumns, .int it_newSlugs, .int it_rhythmTold, .ref qt_text, .int it_textSize, .int it_at, .int it_first, .int it_length, .int it_faultOf, .int it_fault, .ref qt_of, .ref qt_buyerColumn, .ref qt_buyerKind, .ref qt_buyerCoins, .int it_buyerMany, .ref qt_tryRow, .ref qt_tryLong, .ref qt_tryFree, .int it_tryMany])), (qt_w, .inl (cI, 240, .inl ft_w))] [1] (mcC rfl mcN) ((mcC rfl mcN).trans (mcC rfl mcN).symm) 2 rfl (by decide +kernel) (va_recv hK hP (ci := 8) (q0 := 0) rfl rfl) rfl hl.1 rfl (Nat.le_of_ble_eq_true rfl) ⟨Nat.zero_le _, Nat.zero_le _⟩ dX8_wire_2 (fun H locs hP hS => ?_)
  refine lv_if_eq (tgt := 28) hx hb dX8_wire_5 (by decide) (fun c3 => ?_) (fun c3 => ?_)
  · replace h := if_t c3 h
    refine lv_ldc (v := (-1000000001)) hx hb hown cn193 dX8_wire_28 ?_
    simp only [Option.some.injEq, Prod.mk.injEq] at h
    obtain ⟨rfl, rfl⟩ := h
    exact hret _ _ _ _ hP hS rfl dX8_wire_30
  · replace h := if_f c3 h
    refine lv_aload_n hx hb dX8_wire_8 rfl (lv_at hl 0 rfl) ?_
    refine lv_iload_n hx hb dX8_wire_9 rfl (lv_at hl 2 rfl) ?_
    replace h := bd_el h
    obtain ⟨r4, hc5, h⟩ := h
    refine callVI (rest := []) ⟨hx, hb, hml, hown, hts⟩ (ctX8_isColumn l D cI cZ cB cS kK kV _ qt qt_w qt_isKept qt_value qt_weight qt_newTube qt_newPrice qt_newLow qt_newHigh qt_newGoods qt_rhythm qt_rhythmLong qt_slug qt_text qt_of qt_buyerColumn qt_buyerKind qt_buyerCoins qt_tryRow qt_tryLong qt_tryFree it_kinds it_columns it_slugs it_newKinds it_newColumns it_newSlugs it_rhythmTold it_textSize it_at it_first it_length it_faultOf it_fault it_buyerMany it_tryMany x2 N r4 hc5) (cwV 1 hts gX8_wire_X8_isColumn rfl rfl rfl hdX8_isColumn ⟨Nat.le_of_ble_eq_true rfl, Nat.le_of_ble_eq_true rfl⟩) hK hN hX hP (dF hD rfl) hS hA [0] (mcC rfl mcN) (by decide +kernel) [(qt, .inr (8, [.ref qt_w, .ref qt_isKept, .ref qt_value, .ref qt_weight, .ref qt_newTube, .ref qt_newPrice, .ref qt_newLow, .ref qt_newHigh, .ref qt_newGoods, .ref qt_rhythm, .ref qt_rhythmLong, .ref qt_slug, .int it_kinds, .int it_columns, .int it_slugs, .int it_newKinds, .int it_newColumns, .int it_newSlugs, .int it_rhythmTold, .ref qt_text, .int it_textSize, .int it_at, .int it_first, .int it_length, .int it_faultOf, .int it_fault, .ref qt_of, .ref qt_buyerColumn, .ref qt_buyerKind, .ref qt_buyerCoins, .int it_buyerMany, .ref qt_tryRow, .ref qt_tryLong, .ref qt_tryFree, .int it_tryMany])), (qt_w, .inl (cI, 240, .inl ft_w))] [1] (mcC rfl mcN) ((mcC rfl mcN).trans (mcC rfl mcN).symm) 2 rfl (by decide +kernel) (va_recv hK hP (ci := 8) (q0 := 0) rfl rfl) rfl hl.1 rfl (Nat.le_of_ble_eq_true rfl) ⟨Nat.zero_le _, Nat.zero_le _⟩ dX8_wire_10 (fun H locs hP hS => ?_)
    refine lv_if_eq (tgt := 28) hx hb dX8_wire_13 (by decide) (fun c6 => ?_) (fun c6 => ?_)
    · replace h := if_t c6 h
      refine lv_ldc (v := (-1000000001)) hx hb hown cn193 dX8_wire_28 ?_
      simp only [Option.some.injEq, Prod.mk.injEq] at h
      obtain ⟨rfl, rfl⟩ := h
      exact hret _ _ _ _ hP hS rfl dX8_wire_30
    · replace h := if_f c6 h
      refine lv_aload_n hx hb dX8_wire_16 rfl (lv_at hl 0 rfl) ?_
      refine lv_bipush (v := 40) hx hb dX8_wire_17 (by decide) ?_
      refine lv_iload_n hx hb dX8_wire_19 rfl (lv_at hl 1 rfl) ?_
      refine lv_iadd hx hb dX8_wire_20 ?_
      refine lv_iload_n hx hb dX8_wire_21 rfl (lv_at hl 2 rfl) ?_
      replace h := bd_el h
      obtain ⟨⟨r7, g8⟩, hc9, h⟩ := h
      refine callVI (rest := []) ⟨hx, hb, hml, hown, hts⟩ (ctX8_set l D cI cZ cB cS kK kV _ qt qt_w qt_isKept qt_value qt_weight qt_newTube qt_newPrice qt_newLow qt_newHigh qt_newGoods qt_rhythm qt_rhythmLong qt_slug qt_text qt_of qt_buyerColumn qt_buyerKind qt_buyerCoins qt_tryRow qt_tryLong qt_tryFree it_kinds it_columns it_slugs it_newKinds it_newColumns it_newSlugs it_rhythmTold it_textSize it_at it_first it_length it_faultOf it_fault it_buyerMany it_tryMany ft_w (40 + x1) x2 N r7 g8 hc9) (cwV 2 hts gX8_wire_X8_set rfl rfl rfl hdX8_set ⟨Nat.le_of_ble_eq_true rfl, Nat.le_of_ble_eq_true rfl⟩) hK hN hX hP (dF hD rfl) hS hA [0, 1] (mcC rfl (mcC rfl mcN)) (by decide +kernel) [(qt, .inr (8, [.ref qt_w, .ref qt_isKept, .ref qt_value, .ref qt_weight, .ref qt_newTube, .ref qt_newPrice, .ref qt_newLow, .ref qt_newHigh, .ref qt_newGoods, .ref qt_rhythm, .ref qt_rhythmLong, .ref qt_slug, .int it_kinds, .int it_columns, .int it_slugs, .int it_newKinds, .int it_newColumns, .int it_newSlugs, .int it_rhythmTold, .ref qt_text, .int it_textSize, .int it_at, .int it_first, .int it_length, .int it_faultOf, .int it_fault, .ref qt_of, .ref qt_buyerColumn, .ref qt_buyerKind, .ref qt_buyerCoins, .int it_buyerMany, .ref qt_tryRow, .ref qt_tryLong, .ref qt_tryFree, .int it_tryMany])), (qt_w, .inl (cI, 240, .inl g8))] [] (mcC rfl (mcC rfl mcN)) (mcN.trans mcN.symm) 2 rfl (by decide +kernel) (va_recv hK hP (ci := 8) (q0 := 0) rfl rfl) rfl hl.1 rfl (Nat.le_of_ble_eq_true rfl) ⟨Nat.zero_le _, Nat.zero_le _⟩ dX8_wire_22 (fun H locs hP hS => ?_)
      refine lv_goto (tgt := 30) hx hb dX8_wire_25 (by decide) ?_
      simp only [Option.some.injEq, Prod.mk.injEq] at h
      obtain ⟨rfl, rfl⟩ := h
      exact hret _ _ _ _ hP hS rfl dX8_wire_30
theorem hdX8_wire : yX8_wire.cls = RX8 ∧ yX8_wire.cls ≠ "java/lang/invoke/MethodHandle" ∧ yX8_wire.cls ≠ "java/lang/invoke/VarHandle" ∧ (parseMethodDescriptor yX8_wire.desc).map (fun d => d.parameters.length) = some 2 := by decide +kernel

noncomputable def fX8_draw (N : Nat) (ft_w : Nat → Int32) (x1 : Int32) : Option (Int32 × (Nat → Int32)) := ck 50 240 (lt (Int64.toInt32 ((((Int32.toInt64 (ft_w (Int32.toNatClampNeg 50))) * 1103515245) + 12345) - (((Int32.toInt64 (ft_w (Int32.toNatClampNeg 50))) * 1103515245) + 12345) / 2147483648 * 2147483648)) fun n2 => nz x1 (lt ((((upd ft_w (Int32.toNatClampNeg 50) n2) (Int32.toNatClampNeg 50)) / 65536) - (((upd ft_w (Int32.toNatClampNeg 50) n2) (Int32.toNatClampNeg 50)) / 65536) / x1 * x1) fun n4 => some (n4, upd ft_w (Int32.toNatClampNeg 50) n2)))
set_option maxHeartbeats 4000000 in
set_option maxRecDepth 100000 in
theorem ctX8_draw (l : Launch) (D : va_G) (cI cZ cB cS : ClassId) (kK kV : Nat → Nat) (sz : Nat) (qt qt_w qt_isKept qt_value qt_weight qt_newTube qt_newPrice qt_newLow qt_newHigh qt_newGoods qt_rhythm qt_rhythmLong qt_slug qt_text qt_of qt_buyerColumn qt_buyerKind qt_buyerCoins qt_tryRow qt_tryLong qt_tryFree : Nat) (it_kinds : Int32) (it_columns : Int32) (it_slugs : Int32) (it_newKinds : Int32) (it_newColumns : Int32) (it_newSlugs : Int32) (it_rhythmTold : Int32) (it_textSize : Int32) (it_at : Int32) (it_first : Int32) (it_length : Int32) (it_faultOf : Int32) (it_fault : Int32) (it_buyerMany : Int32) (it_tryMany : Int32) (ft_w : Nat → Int32) (x1 : Int32) (N : Nat) (r0 : Int32) (w_ft_w : Nat → Int32) (h : fX8_draw N ft_w x1 = some (r0, w_ft_w)) : CtI l yX8_draw wsX8_draw { frames := 0, cells := 0, slots := 0, locals := 0 } D (TY cI cZ cB cS) kK kV [.ref qt, .int x1] [(qt, .inr (8, [.ref qt_w, .ref qt_isKept, .ref qt_value, .ref qt_weight, .ref qt_newTube, .ref qt_newPrice, .ref qt_newLow, .ref qt_newHigh, .ref qt_newGoods, .ref qt_rhythm, .ref qt_rhythmLong, .ref qt_slug, .int it_kinds, .int it_columns, .int it_slugs, .int it_newKinds, .int it_newColumns, .int it_newSlugs, .int it_rhythmTold, .ref qt_text, .int it_textSize, .int it_at, .int it_first, .int it_length, .int it_faultOf, .int it_fault, .ref qt_of, .ref qt_buyerColumn, .ref qt_buyerKind, .ref qt_buyerCoins, .int it_buyerMany, .ref qt_tryRow, .ref qt_tryLong, .ref qt_tryFree, .int it_tryMany])), (qt_w, .inl (cI, 240, .inl ft_w))] [(qt, .inr (8, [.ref qt_w, .ref qt_isKept, .ref qt_value, .ref qt_weight, .ref qt_newTube, .ref qt_newPrice, .ref qt_newLow, .ref qt_newHigh, .ref qt_newGoods, .ref qt_rhythm, .ref qt_rhythmLong, .ref qt_slug, .int it_kinds, .int it_columns, .int it_slugs, .int it_newKinds, .int it_newColumns, .int it_newSlugs, .int it_rhythmTold, .ref qt_text, .int it_textSize, .int it_at, .int it_first, .int it_length, .int it_faultOf, .int it_fault, .ref qt_of, .ref qt_buyerColumn, .ref qt_buyerKind, .ref qt_buyerCoins, .int it_buyerMany, .ref qt_tryRow, .ref qt_tryLong, .ref qt_tryFree, .int it_tryMany])), (qt_w, .inl (cI, 240, .inl w_ft_w))] sz r0 := by
  refine mkI (cc := cX8_draw) (maxL := 2) (rt := .int) (own := RX8) (by decide) rfl rfl (Nat.le_of_ble_eq_true rfl) ?_
  intro p e s m args below meth c A Z ls hx hb hml hown hts hK hN hX hP hD hA hS hret hl
  have hl : lv_has ls 2 [(0, .ref qt), (1, .int x1)] := hl
  have fl7 : (Cond.fieldLink RX8 7 "SoupWallModel" "w" "[I").before args s = true := hts _ (List.mem_of_getElem? (l := wsX8_draw) (i := 1) rfl)
  have hiX8 : ∀ w ∈ wsX80, w ∈ wsX8_draw := fun w h => List.mem_cons_of_mem _ (List.mem_append_right _ h)
  have cn240 : (Cond.constantLong RX8 240 (1103515245)).before args s = true := hts _ (List.mem_of_getElem? (l := wsX8_draw) (i := 2) rfl)
  have cn242 : (Cond.constantLong RX8 242 (12345)).before args s = true := hts _ (List.mem_of_getElem? (l := wsX8_draw) (i := 3) rfl)
  have cn244 : (Cond.constantLong RX8 244 (2147483648)).before args s = true := hts _ (List.mem_of_getElem? (l := wsX8_draw) (i := 4) rfl)
  have cn246 : (Cond.constant RX8 246 (65536)).before args s = true := hts _ (List.mem_of_getElem? (l := wsX8_draw) (i := 5) rfl)
  unfold fX8_draw at h
  refine lv_aload_n hx hb dX8_draw_0 rfl (lv_at hl 0 rfl) ?_
  refine va_get (ci := 8) (v := .ref qt_w) (C := RX8) (T := TX8) (N := 35) hx hb hts hiX8 hown hK hP 0 rfl rfl 0 (by decide) fl7 (fun _ h9 => h9) rfl dX8_draw_1 ?_
  refine lv_bipush (v := 50) hx hb dX8_draw_4 (by decide) ?_
  refine lv_aload_n hx hb dX8_draw_6 rfl (lv_at hl 0 rfl) ?_
  refine va_get (ci := 8) (v := .ref qt_w) (C := RX8) (T := TX8) (N := 35) hx hb hts hiX8 hown hK hP 0 rfl rfl 0 (by decide) fl7 (fun _ h9 => h9) rfl dX8_draw_7 ?_
  refine lv_bipush (v := 50) hx hb dX8_draw_10 (by decide) ?_
  replace h := ck_el h
  obtain ⟨hi1, h⟩ := h
  refine va_iald hx hb hK hP 1 0 rfl rfl hi1 dX8_draw_12 ?_
  refine lv_i2l (v := Int32.toInt64 (ft_w (Int32.toNatClampNeg 50))) hx hb dX8_draw_13 rfl ?_
  refine lv_ldc2 (v := 1103515245) hx hb hown cn240 dX8_draw_14 ?_
  refine lv_lmul hx hb dX8_draw_17 ?_
  refine lv_ldc2 (v := 12345) hx hb hown cn242 dX8_draw_18 ?_
  refine lv_ladd hx hb dX8_draw_21 ?_
  refine lv_ldc2 (v := 2147483648) hx hb hown cn244 dX8_draw_22 ?_
  refine lv_lrem hx hb dX8_draw_25 (by decide) ?_
  refine lv_l2i (v := Int64.toInt32 ((((Int32.toInt64 (ft_w (Int32.toNatClampNeg 50))) * 1103515245) + 12345) - (((Int32.toInt64 (ft_w (Int32.toNatClampNeg 50))) * 1103515245) + 12345) / 2147483648 * 2147483648)) hx hb dX8_draw_26 rfl ?_
  refine lv_topi (fun n2 en2 => ?_)
  replace h := lt_at en2 h
  refine va_iast hx hb hK hP (dF hD rfl) hS 1 0 rfl rfl hi1 dX8_draw_27 (fun H locs hP _ hS => ?_)
  replace hP : va_P D vwCl [(qt, .inr (8, [.ref qt_w, .ref qt_isKept, .ref qt_value, .ref qt_weight, .ref qt_newTube, .ref qt_newPrice, .ref qt_newLow, .ref qt_newHigh, .ref qt_newGoods, .ref qt_rhythm, .ref qt_rhythmLong, .ref qt_slug, .int it_kinds, .int it_columns, .int it_slugs, .int it_newKinds, .int it_newColumns, .int it_newSlugs, .int it_rhythmTold, .ref qt_text, .int it_textSize, .int it_at, .int it_first, .int it_length, .int it_faultOf, .int it_fault, .ref qt_of, .ref qt_buyerColumn, .ref qt_buyerKind, .ref qt_buyerCoins, .int it_buyerMany, .ref qt_tryRow, .ref qt_tryLong, .ref qt_tryFree, .int it_tryMany])), (qt_w, .inl (cI, 240, .inl (upd ft_w (Int32.toNatClampNeg 50) n2)))] H := hP
  refine lv_aload_n hx hb dX8_draw_28 rfl (lv_at hl 0 rfl) ?_
  refine va_get (ci := 8) (v := .ref qt_w) (C := RX8) (T := TX8) (N := 35) hx hb hts hiX8 hown hK hP 0 rfl rfl 0 (by decide) fl7 (fun _ h9 => h9) rfl dX8_draw_29 ?_
  refine lv_bipush (v := 50) hx hb dX8_draw_32 (by decide) ?_
  refine va_iald hx hb hK hP 1 0 rfl rfl hi1 dX8_draw_34 ?_
  refine lv_ldc (v := 65536) hx hb hown cn246 dX8_draw_35 ?_
  refine lv_idiv hx hb dX8_draw_37 (by decide) ?_
  refine lv_iload_n hx hb dX8_draw_38 rfl (lv_at hl 1 rfl) ?_
  replace h := nz_el h
  obtain ⟨hz3, h⟩ := h
  refine lv_irem hx hb dX8_draw_39 hz3 ?_
  refine lv_topi (fun n4 en4 => ?_)
  replace h := lt_at en4 h
  simp only [Option.some.injEq, Prod.mk.injEq] at h
  obtain ⟨rfl, rfl⟩ := h
  exact hret _ _ _ _ hP hS rfl dX8_draw_40
theorem hdX8_draw : yX8_draw.cls = RX8 ∧ yX8_draw.cls ≠ "java/lang/invoke/MethodHandle" ∧ yX8_draw.cls ≠ "java/lang/invoke/VarHandle" ∧ (parseMethodDescriptor yX8_draw.desc).map (fun d => d.parameters.length) = some 1 := by decide +kernel

noncomputable def fX8_drift_L56 (N : Nat) : Nat → Int32 → Int32 → Int32 → Int32 → Int32 → Int32 → (Nat → Int32) → (Nat → Int32) → (Nat → Int32) → Option (Int32 × (Nat → Int32))
  | 0, _, _, _, _, _, _, _, _, _ => none
  | k + 1, x1, x2, x3, x4, it_kinds, it_columns, ft_w, ft_weight, ft_value => (if 4 ≤ x4 then some (x2, ft_w) else bd (fX8_draw N ft_w it_columns) fun (r2, g3) => bd (fX8_draw N g3 it_kinds) fun (r5, g6) => bd (fX8_draw N g6 6) fun (r8, g9) => lt (r8 + 1) fun n11 => bd (fX8_canBuy N g9 ft_weight ft_value 0 r2 r5 n11) fun r12 => (if r12 = 0 then lt (x4 + 1) fun n15 => fX8_drift_L56 N k x1 x2 x3 n15 it_kinds it_columns g9 ft_weight ft_value else bd (fX8_sell N it_kinds g9 ft_value 0 r2 r5 n11) fun (r16, g17) => lt (x2 + 1) fun n19 => lt (x4 + 1) fun n20 => fX8_drift_L56 N k x1 n19 x3 n20 it_kinds it_columns g17 ft_weight ft_value))
theorem fX8_drift_L56_s (N : Nat) (k : Nat) (x1 : Int32) (x2 : Int32) (x3 : Int32) (x4 : Int32) (it_kinds : Int32) (it_columns : Int32) (ft_w : Nat → Int32) (ft_weight : Nat → Int32) (ft_value : Nat → Int32) : fX8_drift_L56 N (k + 1) x1 x2 x3 x4 it_kinds it_columns ft_w ft_weight ft_value = ((if 4 ≤ x4 then some (x2, ft_w) else bd (fX8_draw N ft_w it_columns) fun (r2, g3) => bd (fX8_draw N g3 it_kinds) fun (r5, g6) => bd (fX8_draw N g6 6) fun (r8, g9) => lt (r8 + 1) fun n11 => bd (fX8_canBuy N g9 ft_weight ft_value 0 r2 r5 n11) fun r12 => (if r12 = 0 then lt (x4 + 1) fun n15 => fX8_drift_L56 N k x1 x2 x3 n15 it_kinds it_columns g9 ft_weight ft_value else bd (fX8_sell N it_kinds g9 ft_value 0 r2 r5 n11) fun (r16, g17) => lt (x2 + 1) fun n19 => lt (x4 + 1) fun n20 => fX8_drift_L56 N k x1 n19 x3 n20 it_kinds it_columns g17 ft_weight ft_value))) := rfl
noncomputable def fX8_drift_L36 (N : Nat) : Nat → Int32 → Int32 → Int32 → Int32 → Int32 → (Nat → Int32) → (Nat → Int32) → (Nat → Int32) → Option (Int32 × (Nat → Int32))
  | 0, _, _, _, _, _, _, _, _ => none
  | k + 1, x1, x2, x3, it_kinds, it_columns, ft_w, ft_weight, ft_value => (if x1 ≤ x3 then some (x2, ft_w) else bd (fX8_draw N ft_w 4) fun (r22, g23) => ck 48 240 (bd (fX8_drift_L56 N N x1 x2 x3 0 it_kinds it_columns (upd g23 (Int32.toNatClampNeg 48) r22) ft_weight ft_value) fun (n27, g28) => lt (x3 + 1) fun n29 => fX8_drift_L36 N k x1 n27 n29 it_kinds it_columns g28 ft_weight ft_value))
theorem fX8_drift_L36_s (N : Nat) (k : Nat) (x1 : Int32) (x2 : Int32) (x3 : Int32) (it_kinds : Int32) (it_columns : Int32) (ft_w : Nat → Int32) (ft_weight : Nat → Int32) (ft_value : Nat → Int32) : fX8_drift_L36 N (k + 1) x1 x2 x3 it_kinds it_columns ft_w ft_weight ft_value = ((if x1 ≤ x3 then some (x2, ft_w) else bd (fX8_draw N ft_w 4) fun (r22, g23) => ck 48 240 (bd (fX8_drift_L56 N N x1 x2 x3 0 it_kinds it_columns (upd g23 (Int32.toNatClampNeg 48) r22) ft_weight ft_value) fun (n27, g28) => lt (x3 + 1) fun n29 => fX8_drift_L36 N k x1 n27 n29 it_kinds it_columns g28 ft_weight ft_value))) := rfl
noncomputable def fX8_drift (N : Nat) (it_kinds : Int32) (it_columns : Int32) (ft_w : Nat → Int32) (ft_weight : Nat → Int32) (ft_value : Nat → Int32) (x1 : Int32) : Option (Int32 × (Nat → Int32)) := bd (fX8_in N (Int32.toInt64 x1) 1 99) fun r30 => (if r30 = 0 then some ((-1000000002), ft_w) else (if it_kinds = 0 then some ((-1000000003), ft_w) else (if it_columns = 0 then some ((-1000000003), ft_w) else bd (fX8_drift_L36 N N x1 0 0 it_kinds it_columns ft_w ft_weight ft_value) fun (n36, g37) => some (n36, g37))))
set_option maxHeartbeats 4000000 in
set_option maxRecDepth 100000 in
theorem ctX8_drift (l : Launch) (D : va_G) (cI cZ cB cS : ClassId) (kK kV : Nat → Nat) (sz : Nat) (qt qt_w qt_isKept qt_value qt_weight qt_newTube qt_newPrice qt_newLow qt_newHigh qt_newGoods qt_rhythm qt_rhythmLong qt_slug qt_text qt_of qt_buyerColumn qt_buyerKind qt_buyerCoins qt_tryRow qt_tryLong qt_tryFree : Nat) (it_kinds : Int32) (it_columns : Int32) (it_slugs : Int32) (it_newKinds : Int32) (it_newColumns : Int32) (it_newSlugs : Int32) (it_rhythmTold : Int32) (it_textSize : Int32) (it_at : Int32) (it_first : Int32) (it_length : Int32) (it_faultOf : Int32) (it_fault : Int32) (it_buyerMany : Int32) (it_tryMany : Int32) (ft_w : Nat → Int32) (ft_weight : Nat → Int32) (ft_value : Nat → Int32) (x1 : Int32) (N : Nat) (r0 : Int32) (w_ft_w : Nat → Int32) (h : fX8_drift N it_kinds it_columns ft_w ft_weight ft_value x1 = some (r0, w_ft_w)) : CtI l yX8_drift wsX8_drift { frames := 4, cells := 0, slots := 0, locals := 96 } D (TY cI cZ cB cS) kK kV [.ref qt, .int x1] [(qt, .inr (8, [.ref qt_w, .ref qt_isKept, .ref qt_value, .ref qt_weight, .ref qt_newTube, .ref qt_newPrice, .ref qt_newLow, .ref qt_newHigh, .ref qt_newGoods, .ref qt_rhythm, .ref qt_rhythmLong, .ref qt_slug, .int it_kinds, .int it_columns, .int it_slugs, .int it_newKinds, .int it_newColumns, .int it_newSlugs, .int it_rhythmTold, .ref qt_text, .int it_textSize, .int it_at, .int it_first, .int it_length, .int it_faultOf, .int it_fault, .ref qt_of, .ref qt_buyerColumn, .ref qt_buyerKind, .ref qt_buyerCoins, .int it_buyerMany, .ref qt_tryRow, .ref qt_tryLong, .ref qt_tryFree, .int it_tryMany])), (qt_w, .inl (cI, 240, .inl ft_w)), (qt_weight, .inl (cI, 10, .inl ft_weight)), (qt_value, .inl (cI, 10, .inl ft_value))] [(qt, .inr (8, [.ref qt_w, .ref qt_isKept, .ref qt_value, .ref qt_weight, .ref qt_newTube, .ref qt_newPrice, .ref qt_newLow, .ref qt_newHigh, .ref qt_newGoods, .ref qt_rhythm, .ref qt_rhythmLong, .ref qt_slug, .int it_kinds, .int it_columns, .int it_slugs, .int it_newKinds, .int it_newColumns, .int it_newSlugs, .int it_rhythmTold, .ref qt_text, .int it_textSize, .int it_at, .int it_first, .int it_length, .int it_faultOf, .int it_fault, .ref qt_of, .ref qt_buyerColumn, .ref qt_buyerKind, .ref qt_buyerCoins, .int it_buyerMany, .ref qt_tryRow, .ref qt_tryLong, .ref qt_tryFree, .int it_tryMany])), (qt_w, .inl (cI, 240, .inl w_ft_w)), (qt_weight, .inl (cI, 10, .inl ft_weight)), (qt_value, .inl (cI, 10, .inl ft_value))] sz r0 := by
  refine mkI (cc := cX8_drift) (maxL := 9) (rt := .int) (own := RX8) (by decide) rfl rfl (Nat.le_of_ble_eq_true rfl) ?_
  intro p e s m args below meth c A Z ls hx hb hml hown hts hK hN hX hP hD hA hS hret hl
  have hl : lv_has ls 9 [(0, .ref qt), (1, .int x1)] := hl
  have fl167 : (Cond.fieldLink RX8 167 "SoupWallModel" "columns" "I").before args s = true := hts _ (List.mem_of_getElem? (l := wsX8_drift) (i := 4) rfl)
  have hiX8 : ∀ w ∈ wsX80, w ∈ wsX8_drift := fun w h => List.mem_cons_of_mem _ (List.mem_append_right _ h)
  have fl164 : (Cond.fieldLink RX8 164 "SoupWallModel" "kinds" "I").before args s = true := hts _ (List.mem_of_getElem? (l := wsX8_drift) (i := 3) rfl)
  have fl7 : (Cond.fieldLink RX8 7 "SoupWallModel" "w" "[I").before args s = true := hts _ (List.mem_of_getElem? (l := wsX8_drift) (i := 6) rfl)
  have cn222 : (Cond.constantLong RX8 222 (99)).before args s = true := hts _ (List.mem_of_getElem? (l := wsX8_drift) (i := 1) rfl)
  have cn228 : (Cond.constant RX8 228 (-1000000003)).before args s = true := hts _ (List.mem_of_getElem? (l := wsX8_drift) (i := 5) rfl)
  have cn81 : (Cond.constant RX8 81 (-1000000002)).before args s = true := hts _ (List.mem_of_getElem? (l := wsX8_drift) (i := 2) rfl)
  have lp56 : ∀ (k : Nat) (x1 : Int32) (x2 : Int32) (x3 : Int32) (x4 : Int32) (ft_w : Nat → Int32) (H : Heap) (locs : List Loc) (ls : Array Slot) (o : Int32 × (Nat → Int32)), fX8_drift_L56 N k x1 x2 x3 x4 it_kinds it_columns ft_w ft_weight ft_value = some o → va_P D vwCl [(qt, .inr (8, [.ref qt_w, .ref qt_isKept, .ref qt_value, .ref qt_weight, .ref qt_newTube, .ref qt_newPrice, .ref qt_newLow, .ref qt_newHigh, .ref qt_newGoods, .ref qt_rhythm, .ref qt_rhythmLong, .ref qt_slug, .int it_kinds, .int it_columns, .int it_slugs, .int it_newKinds, .int it_newColumns, .int it_newSlugs, .int it_rhythmTold, .ref qt_text, .int it_textSize, .int it_at, .int it_first, .int it_length, .int it_faultOf, .int it_fault, .ref qt_of, .ref qt_buyerColumn, .ref qt_buyerKind, .ref qt_buyerCoins, .int it_buyerMany, .ref qt_tryRow, .ref qt_tryLong, .ref qt_tryFree, .int it_tryMany])), (qt_w, .inl (cI, 240, .inl ft_w)), (qt_weight, .inl (cI, 10, .inl ft_weight)), (qt_value, .inl (cI, 10, .inl ft_value))] H → va_S A s.heap H locs → lv_has ls 9 [(0, .ref qt), (1, .int x1), (2, .int x2), (3, .int x3), (4, .int x4)] → (∀ (e2 : Int32) (e_ft_w : Nat → Int32), (e2, e_ft_w) = o → ∀ (H : Heap) (locs : List Loc) (ls : Array Slot), va_P D vwCl [(qt, .inr (8, [.ref qt_w, .ref qt_isKept, .ref qt_value, .ref qt_weight, .ref qt_newTube, .ref qt_newPrice, .ref qt_newLow, .ref qt_newHigh, .ref qt_newGoods, .ref qt_rhythm, .ref qt_rhythmLong, .ref qt_slug, .int it_kinds, .int it_columns, .int it_slugs, .int it_newKinds, .int it_newColumns, .int it_newSlugs, .int it_rhythmTold, .ref qt_text, .int it_textSize, .int it_at, .int it_first, .int it_length, .int it_faultOf, .int it_fault, .ref qt_of, .ref qt_buyerColumn, .ref qt_buyerKind, .ref qt_buyerCoins, .int it_buyerMany, .ref qt_tryRow, .ref qt_tryLong, .ref qt_tryFree, .int it_tryMany])), (qt_w, .inl (cI, 240, .inl e_ft_w)), (qt_weight, .inl (cI, 10, .inl ft_weight)), (qt_value, .inl (cI, 10, .inl ft_value))] H → va_S A s.heap H locs → lv_has ls 9 [(0, .ref qt), (1, .int x1), (2, .int e2), (3, .int x3)] → W p l e ({ frames := 4, cells := 0, slots := 0, locals := 96 } : Room) s m args below meth c H locs 0 0 Z (F0 m 128 ls [])) → W p l e ({ frames := 4, cells := 0, slots := 0, locals := 96 } : Room) s m args below meth c H locs 0 0 Z (F0 m 56 ls []) := by
    intro k
    induction k with
    | zero =>
      intro x1 x2 x3 x4 ft_w H locs ls o h
      exact nomatch (show (none : Option (Int32 × (Nat → Int32))) = some o from h)
    | succ k ih =>
      intro x1 x2 x3 x4 ft_w H locs ls o h hP hS hl K
      rw [fX8_drift_L56_s] at h
      refine lv_iload hx hb dX8_drift_56 (lv_at hl 4 rfl) ?_
      refine lv_iconst (v := 4) hx hb dX8_drift_58 (by decide) ?_
      refine lv_icmp_ge (tgt := 128) hx hb dX8_drift_59 (by decide) (fun c1 => ?_) (fun c1 => ?_)
      · replace h := if_t c1 h
        exact K x2 ft_w (Option.some.inj h) _ _ _ hP hS (lv_sub hl [0, 1, 2, 3] rfl)
      · replace h := if_f c1 h
        refine lv_aload_n hx hb dX8_drift_62 rfl (lv_at hl 0 rfl) ?_
        refine lv_aload_n hx hb dX8_drift_63 rfl (lv_at hl 0 rfl) ?_
        refine va_get (ci := 8) (v := .int it_columns) (C := RX8) (T := TX8) (N := 35) hx hb hts hiX8 hown hK hP 0 rfl rfl 13 (by decide) fl167 (fun _ h9 => h9) rfl dX8_drift_64 ?_
        replace h := bd_el h
        obtain ⟨⟨r2, g3⟩, hc4, h⟩ := h
        refine callVI (rest := []) ⟨hx, hb, hml, hown, hts⟩ (ctX8_draw l D cI cZ cB cS kK kV _ qt qt_w qt_isKept qt_value qt_weight qt_newTube qt_newPrice qt_newLow qt_newHigh qt_newGoods qt_rhythm qt_rhythmLong qt_slug qt_text qt_of qt_buyerColumn qt_buyerKind qt_buyerCoins qt_tryRow qt_tryLong qt_tryFree it_kinds it_columns it_slugs it_newKinds it_newColumns it_newSlugs it_rhythmTold it_textSize it_at it_first it_length it_faultOf it_fault it_buyerMany it_tryMany ft_w it_columns N r2 g3 hc4) (cwV 1 hts gX8_drift_X8_draw rfl rfl rfl hdX8_draw ⟨Nat.le_of_ble_eq_true rfl, Nat.le_of_ble_eq_true rfl⟩) hK hN hX hP (dF hD rfl) hS hA [0, 1] (mcC rfl (mcC rfl mcN)) (by decide +kernel) [(qt, .inr (8, [.ref qt_w, .ref qt_isKept, .ref qt_value, .ref qt_weight, .ref qt_newTube, .ref qt_newPrice, .ref qt_newLow, .ref qt_newHigh, .ref qt_newGoods, .ref qt_rhythm, .ref qt_rhythmLong, .ref qt_slug, .int it_kinds, .int it_columns, .int it_slugs, .int it_newKinds, .int it_newColumns, .int it_newSlugs, .int it_rhythmTold, .ref qt_text, .int it_textSize, .int it_at, .int it_first, .int it_length, .int it_faultOf, .int it_fault, .ref qt_of, .ref qt_buyerColumn, .ref qt_buyerKind, .ref qt_buyerCoins, .int it_buyerMany, .ref qt_tryRow, .ref qt_tryLong, .ref qt_tryFree, .int it_tryMany])), (qt_w, .inl (cI, 240, .inl g3)), (qt_weight, .inl (cI, 10, .inl ft_weight)), (qt_value, .inl (cI, 10, .inl ft_value))] [2, 3] (mcC rfl (mcC rfl mcN)) ((mcC rfl (mcC rfl mcN)).trans (mcC rfl (mcC rfl mcN)).symm) 4 rfl (by decide +kernel) (va_recv hK hP (ci := 8) (q0 := 0) rfl rfl) rfl hl.1 rfl (Nat.le_of_ble_eq_true rfl) ⟨Nat.zero_le _, Nat.zero_le _⟩ dX8_drift_67 (fun H locs hP hS => ?_)
        refine lv_istore (lv' := [(5, .int r2), (0, .ref qt), (1, .int x1), (2, .int x2), (3, .int x3), (4, .int x4)]) hx hb dX8_drift_70 hl (by decide) rfl (fun ls hl => ?_)
        refine lv_aload_n hx hb dX8_drift_72 rfl (lv_at hl 1 rfl) ?_
        refine lv_aload_n hx hb dX8_drift_73 rfl (lv_at hl 1 rfl) ?_
        refine va_get (ci := 8) (v := .int it_kinds) (C := RX8) (T := TX8) (N := 35) hx hb hts hiX8 hown hK hP 0 rfl rfl 12 (by decide) fl164 (fun _ h9 => h9) rfl dX8_drift_74 ?_
        replace h := bd_el h
        obtain ⟨⟨r5, g6⟩, hc7, h⟩ := h
        refine callVI (rest := []) ⟨hx, hb, hml, hown, hts⟩ (ctX8_draw l D cI cZ cB cS kK kV _ qt qt_w qt_isKept qt_value qt_weight qt_newTube qt_newPrice qt_newLow qt_newHigh qt_newGoods qt_rhythm qt_rhythmLong qt_slug qt_text qt_of qt_buyerColumn qt_buyerKind qt_buyerCoins qt_tryRow qt_tryLong qt_tryFree it_kinds it_columns it_slugs it_newKinds it_newColumns it_newSlugs it_rhythmTold it_textSize it_at it_first it_length it_faultOf it_fault it_buyerMany it_tryMany g3 it_kinds N r5 g6 hc7) (cwV 1 hts gX8_drift_X8_draw rfl rfl rfl hdX8_draw ⟨Nat.le_of_ble_eq_true rfl, Nat.le_of_ble_eq_true rfl⟩) hK hN hX hP (dF hD rfl) hS hA [0, 1] (mcC rfl (mcC rfl mcN)) (by decide +kernel) [(qt, .inr (8, [.ref qt_w, .ref qt_isKept, .ref qt_value, .ref qt_weight, .ref qt_newTube, .ref qt_newPrice, .ref qt_newLow, .ref qt_newHigh, .ref qt_newGoods, .ref qt_rhythm, .ref qt_rhythmLong, .ref qt_slug, .int it_kinds, .int it_columns, .int it_slugs, .int it_newKinds, .int it_newColumns, .int it_newSlugs, .int it_rhythmTold, .ref qt_text, .int it_textSize, .int it_at, .int it_first, .int it_length, .int it_faultOf, .int it_fault, .ref qt_of, .ref qt_buyerColumn, .ref qt_buyerKind, .ref qt_buyerCoins, .int it_buyerMany, .ref qt_tryRow, .ref qt_tryLong, .ref qt_tryFree, .int it_tryMany])), (qt_w, .inl (cI, 240, .inl g6)), (qt_weight, .inl (cI, 10, .inl ft_weight)), (qt_value, .inl (cI, 10, .inl ft_value))] [2, 3] (mcC rfl (mcC rfl mcN)) ((mcC rfl (mcC rfl mcN)).trans (mcC rfl (mcC rfl mcN)).symm) 4 rfl (by decide +kernel) (va_recv hK hP (ci := 8) (q0 := 0) rfl rfl) rfl hl.1 rfl (Nat.le_of_ble_eq_true rfl) ⟨Nat.zero_le _, Nat.zero_le _⟩ dX8_drift_77 (fun H locs hP hS => ?_)
        refine lv_istore (lv' := [(6, .int r5), (5, .int r2), (0, .ref qt), (1, .int x1), (2, .int x2), (3, .int x3), (4, .int x4)]) hx hb dX8_drift_80 hl (by decide) rfl (fun ls hl => ?_)
        refine lv_aload_n hx hb dX8_drift_82 rfl (lv_at hl 2 rfl) ?_
        refine lv_bipush (v := 6) hx hb dX8_drift_83 (by decide) ?_
        replace h := bd_el h
        obtain ⟨⟨r8, g9⟩, hc10, h⟩ := h
        refine callVI (rest := []) ⟨hx, hb, hml, hown, hts⟩ (ctX8_draw l D cI cZ cB cS kK kV _ qt qt_w qt_isKept qt_value qt_weight qt_newTube qt_newPrice qt_newLow qt_newHigh qt_newGoods qt_rhythm qt_rhythmLong qt_slug qt_text qt_of qt_buyerColumn qt_buyerKind qt_buyerCoins qt_tryRow qt_tryLong qt_tryFree it_kinds it_columns it_slugs it_newKinds it_newColumns it_newSlugs it_rhythmTold it_textSize it_at it_first it_length it_faultOf it_fault it_buyerMany it_tryMany g6 6 N r8 g9 hc10) (cwV 1 hts gX8_drift_X8_draw rfl rfl rfl hdX8_draw ⟨Nat.le_of_ble_eq_true rfl, Nat.le_of_ble_eq_true rfl⟩) hK hN hX hP (dF hD rfl) hS hA [0, 1] (mcC rfl (mcC rfl mcN)) (by decide +kernel) [(qt, .inr (8, [.ref qt_w, .ref qt_isKept, .ref qt_value, .ref qt_weight, .ref qt_newTube, .ref qt_newPrice, .ref qt_newLow, .ref qt_newHigh, .ref qt_newGoods, .ref qt_rhythm, .ref qt_rhythmLong, .ref qt_slug, .int it_kinds, .int it_columns, .int it_slugs, .int it_newKinds, .int it_newColumns, .int it_newSlugs, .int it_rhythmTold, .ref qt_text, .int it_textSize, .int it_at, .int it_first, .int it_length, .int it_faultOf, .int it_fault, .ref qt_of, .ref qt_buyerColumn, .ref qt_buyerKind, .ref qt_buyerCoins, .int it_buyerMany, .ref qt_tryRow, .ref qt_tryLong, .ref qt_tryFree, .int it_tryMany])), (qt_w, .inl (cI, 240, .inl g9)), (qt_weight, .inl (cI, 10, .inl ft_weight)), (qt_value, .inl (cI, 10, .inl ft_value))] [2, 3] (mcC rfl (mcC rfl mcN)) ((mcC rfl (mcC rfl mcN)).trans (mcC rfl (mcC rfl mcN)).symm) 4 rfl (by decide +kernel) (va_recv hK hP (ci := 8) (q0 := 0) rfl rfl) rfl hl.1 rfl (Nat.le_of_ble_eq_true rfl) ⟨Nat.zero_le _, Nat.zero_le _⟩ dX8_drift_85 (fun H locs hP hS => ?_)
        refine lv_iconst (v := 1) hx hb dX8_drift_88 (by decide) ?_
        refine lv_iadd hx hb dX8_drift_89 ?_
        refine lv_topi (fun n11 en11 => ?_)
        replace h := lt_at en11 h
        refine lv_istore (lv' := [(7, .int n11), (6, .int r5), (5, .int r2), (0, .ref qt), (1, .int x1), (2, .int x2), (3, .int x3), (4, .int x4)]) hx hb dX8_drift_90 hl (by decide) rfl (fun ls hl => ?_)
        refine lv_aload_n hx hb dX8_drift_92 rfl (lv_at hl 3 rfl) ?_
        refine lv_iconst (v := 0) hx hb dX8_drift_93 (by decide) ?_
        refine lv_iload hx hb dX8_drift_94 (lv_at hl 2 rfl) ?_
        refine lv_iload hx hb dX8_drift_96 (lv_at hl 1 rfl) ?_
        refine lv_iload hx hb dX8_drift_98 (lv_at hl 0 rfl) ?_
        replace h := bd_el h
        obtain ⟨r12, hc13, h⟩ := h
        refine callVI (rest := []) ⟨hx, hb, hml, hown, hts⟩ (ctX8_canBuy l D cI cZ cB cS kK kV _ qt qt_w qt_isKept qt_value qt_weight qt_newTube qt_newPrice qt_newLow qt_newHigh qt_newGoods qt_rhythm qt_rhythmLong qt_slug qt_text qt_of qt_buyerColumn qt_buyerKind qt_buyerCoins qt_tryRow qt_tryLong qt_tryFree it_kinds it_columns it_slugs it_newKinds it_newColumns it_newSlugs it_rhythmTold it_textSize it_at it_first it_length it_faultOf it_fault it_buyerMany it_tryMany g9 ft_weight ft_value 0 r2 r5 n11 N r12 hc13) (cwV 4 hts gX8_drift_X8_canBuy rfl rfl rfl hdX8_canBuy ⟨Nat.le_of_ble_eq_true rfl, Nat.le_of_ble_eq_true rfl⟩) hK hN hX hP (dF hD rfl) hS hA [0, 1, 2, 3] (mcC rfl (mcC rfl (mcC rfl (mcC rfl mcN)))) (by decide +kernel) [(qt, .inr (8, [.ref qt_w, .ref qt_isKept, .ref qt_value, .ref qt_weight, .ref qt_newTube, .ref qt_newPrice, .ref qt_newLow, .ref qt_newHigh, .ref qt_newGoods, .ref qt_rhythm, .ref qt_rhythmLong, .ref qt_slug, .int it_kinds, .int it_columns, .int it_slugs, .int it_newKinds, .int it_newColumns, .int it_newSlugs, .int it_rhythmTold, .ref qt_text, .int it_textSize, .int it_at, .int it_first, .int it_length, .int it_faultOf, .int it_fault, .ref qt_of, .ref qt_buyerColumn, .ref qt_buyerKind, .ref qt_buyerCoins, .int it_buyerMany, .ref qt_tryRow, .ref qt_tryLong, .ref qt_tryFree, .int it_tryMany])), (qt_w, .inl (cI, 240, .inl g9)), (qt_weight, .inl (cI, 10, .inl ft_weight)), (qt_value, .inl (cI, 10, .inl ft_value))] [] (mcC rfl (mcC rfl (mcC rfl (mcC rfl mcN)))) (mcN.trans mcN.symm) 4 rfl (by decide +kernel) (va_recv hK hP (ci := 8) (q0 := 0) rfl rfl) rfl hl.1 rfl (Nat.le_of_ble_eq_true rfl) ⟨Nat.zero_le _, Nat.zero_le _⟩ dX8_drift_100 (fun H locs hP hS => ?_)
        refine lv_if_eq (tgt := 122) hx hb dX8_drift_103 (by decide) (fun c14 => ?_) (fun c14 => ?_)
        · replace h := if_t c14 h
          obtain ⟨n15, en15⟩ : ∃ z : Int32, z = x4 + 1 := ⟨_, rfl⟩
          replace h := lt_at en15 h
          refine lv_iinc (v := n15) (lv' := [(4, .int n15), (7, .int n11), (6, .int r5), (5, .int r2), (0, .ref qt), (1, .int x1), (2, .int x2), (3, .int x3)]) hx hb dX8_drift_122 hl (k := 7) rfl (by rw [en15]; rfl) (by decide) rfl (fun ls hl => ?_)
          refine lv_goto (tgt := 56) hx hb dX8_drift_125 (by decide) ?_
          exact ih x1 x2 x3 n15 g9 _ _ _ o h hP hS (lv_sub hl [4, 5, 6, 7, 0] rfl) K
        · replace h := if_f c14 h
          refine lv_aload_n hx hb dX8_drift_106 rfl (lv_at hl 3 rfl) ?_
          refine lv_iconst (v := 0) hx hb dX8_drift_107 (by decide) ?_
          refine lv_iload hx hb dX8_drift_108 (lv_at hl 2 rfl) ?_
          refine lv_iload hx hb dX8_drift_110 (lv_at hl 1 rfl) ?_
          refine lv_iload hx hb dX8_drift_112 (lv_at hl 0 rfl) ?_
          replace h := bd_el h
          obtain ⟨⟨r16, g17⟩, hc18, h⟩ := h
          refine callVI (rest := []) ⟨hx, hb, hml, hown, hts⟩ (ctX8_sell l D cI cZ cB cS kK kV _ qt qt_w qt_isKept qt_value qt_weight qt_newTube qt_newPrice qt_newLow qt_newHigh qt_newGoods qt_rhythm qt_rhythmLong qt_slug qt_text qt_of qt_buyerColumn qt_buyerKind qt_buyerCoins qt_tryRow qt_tryLong qt_tryFree it_kinds it_columns it_slugs it_newKinds it_newColumns it_newSlugs it_rhythmTold it_textSize it_at it_first it_length it_faultOf it_fault it_buyerMany it_tryMany g9 ft_value 0 r2 r5 n11 N r16 g17 hc18) (cwV 4 hts gX8_drift_X8_sell rfl rfl rfl hdX8_sell ⟨Nat.le_of_ble_eq_true rfl, Nat.le_of_ble_eq_true rfl⟩) hK hN hX hP (dF hD rfl) hS hA [0, 1, 3] (mcC rfl (mcC rfl (mcC rfl mcN))) (by decide +kernel) [(qt, .inr (8, [.ref qt_w, .ref qt_isKept, .ref qt_value, .ref qt_weight, .ref qt_newTube, .ref qt_newPrice, .ref qt_newLow, .ref qt_newHigh, .ref qt_newGoods, .ref qt_rhythm, .ref qt_rhythmLong, .ref qt_slug, .int it_kinds, .int it_columns, .int it_slugs, .int it_newKinds, .int it_newColumns, .int it_newSlugs, .int it_rhythmTold, .ref qt_text, .int it_textSize, .int it_at, .int it_first, .int it_length, .int it_faultOf, .int it_fault, .ref qt_of, .ref qt_buyerColumn, .ref qt_buyerKind, .ref qt_buyerCoins, .int it_buyerMany, .ref qt_tryRow, .ref qt_tryLong, .ref qt_tryFree, .int it_tryMany])), (qt_w, .inl (cI, 240, .inl g17)), (qt_weight, .inl (cI, 10, .inl ft_weight)), (qt_value, .inl (cI, 10, .inl ft_value))] [2] (mcC rfl (mcC rfl (mcC rfl mcN))) ((mcC rfl mcN).trans (mcC rfl mcN).symm) 4 rfl (by decide +kernel) (va_recv hK hP (ci := 8) (q0 := 0) rfl rfl) rfl hl.1 rfl (Nat.le_of_ble_eq_true rfl) ⟨Nat.zero_le _, Nat.zero_le _⟩ dX8_drift_114 (fun H locs hP hS => ?_)
          refine lv_istore (lv' := [(8, .int r16), (7, .int n11), (6, .int r5), (5, .int r2), (0, .ref qt), (1, .int x1), (2, .int x2), (3, .int x3), (4, .int x4)]) hx hb dX8_drift_117 hl (by decide) rfl (fun ls hl => ?_)
          obtain ⟨n19, en19⟩ : ∃ z : Int32, z = x2 + 1 := ⟨_, rfl⟩
          replace h := lt_at en19 h
          refine lv_iinc (v := n19) (lv' := [(2, .int n19), (8, .int r16), (7, .int n11), (6, .int r5), (5, .int r2), (0, .ref qt), (1, .int x1), (3, .int x3), (4, .int x4)]) hx hb dX8_drift_119 hl (k := 6) rfl (by rw [en19]; rfl) (by decide) rfl (fun ls hl => ?_)
          obtain ⟨n20, en20⟩ : ∃ z : Int32, z = x4 + 1 := ⟨_, rfl⟩
          replace h := lt_at en20 h
          refine lv_iinc (v := n20) (lv' := [(4, .int n20), (2, .int n19), (8, .int r16), (7, .int n11), (6, .int r5), (5, .int r2), (0, .ref qt), (1, .int x1), (3, .int x3)]) hx hb dX8_drift_122 hl (k := 8) rfl (by rw [en20]; rfl) (by decide) rfl (fun ls hl => ?_)
          refine lv_goto (tgt := 56) hx hb dX8_drift_125 (by decide) ?_
          exact ih x1 n19 x3 n20 g17 _ _ _ o h hP hS (lv_sub hl [6, 7, 1, 8, 0] rfl) K
  have lp36 : ∀ (k : Nat) (x1 : Int32) (x2 : Int32) (x3 : Int32) (ft_w : Nat → Int32) (H : Heap) (locs : List Loc) (ls : Array Slot) (o : Int32 × (Nat → Int32)), fX8_drift_L36 N k x1 x2 x3 it_kinds it_columns ft_w ft_weight ft_value = some o → va_P D vwCl [(qt, .inr (8, [.ref qt_w, .ref qt_isKept, .ref qt_value, .ref qt_weight, .ref qt_newTube, .ref qt_newPrice, .ref qt_newLow, .ref qt_newHigh, .ref qt_newGoods, .ref qt_rhythm, .ref qt_rhythmLong, .ref qt_slug, .int it_kinds, .int it_columns, .int it_slugs, .int it_newKinds, .int it_newColumns, .int it_newSlugs, .int it_rhythmTold, .ref qt_text, .int it_textSize, .int it_at, .int it_first, .int it_length, .int it_faultOf, .int it_fault, .ref qt_of, .ref qt_buyerColumn, .ref qt_buyerKind, .ref qt_buyerCoins, .int it_buyerMany, .ref qt_tryRow, .ref qt_tryLong, .ref qt_tryFree, .int it_tryMany])), (qt_w, .inl (cI, 240, .inl ft_w)), (qt_weight, .inl (cI, 10, .inl ft_weight)), (qt_value, .inl (cI, 10, .inl ft_value))] H → va_S A s.heap H locs → lv_has ls 9 [(0, .ref qt), (1, .int x1), (2, .int x2), (3, .int x3)] → (∀ (e2 : Int32) (e_ft_w : Nat → Int32), (e2, e_ft_w) = o → ∀ (H : Heap) (locs : List Loc) (ls : Array Slot), va_P D vwCl [(qt, .inr (8, [.ref qt_w, .ref qt_isKept, .ref qt_value, .ref qt_weight, .ref qt_newTube, .ref qt_newPrice, .ref qt_newLow, .ref qt_newHigh, .ref qt_newGoods, .ref qt_rhythm, .ref qt_rhythmLong, .ref qt_slug, .int it_kinds, .int it_columns, .int it_slugs, .int it_newKinds, .int it_newColumns, .int it_newSlugs, .int it_rhythmTold, .ref qt_text, .int it_textSize, .int it_at, .int it_first, .int it_length, .int it_faultOf, .int it_fault, .ref qt_of, .ref qt_buyerColumn, .ref qt_buyerKind, .ref qt_buyerCoins, .int it_buyerMany, .ref qt_tryRow, .ref qt_tryLong, .ref qt_tryFree, .int it_tryMany])), (qt_w, .inl (cI, 240, .inl e_ft_w)), (qt_weight, .inl (cI, 10, .inl ft_weight)), (qt_value, .inl (cI, 10, .inl ft_value))] H → va_S A s.heap H locs → lv_has ls 9 [(2, .int e2)] → W p l e ({ frames := 4, cells := 0, slots := 0, locals := 96 } : Room) s m args below meth c H locs 0 0 Z (F0 m 134 ls [])) → W p l e ({ frames := 4, cells := 0, slots := 0, locals := 96 } : Room) s m args below meth c H locs 0 0 Z (F0 m 36 ls []) := by
    intro k
    induction k with
    | zero =>
      intro x1 x2 x3 ft_w H locs ls o h
      exact nomatch (show (none : Option (Int32 × (Nat → Int32))) = some o from h)
    | succ k ih =>
      intro x1 x2 x3 ft_w H locs ls o h hP hS hl K
      rw [fX8_drift_L36_s] at h
      refine lv_iload_n hx hb dX8_drift_36 rfl (lv_at hl 3 rfl) ?_
      refine lv_iload_n hx hb dX8_drift_37 rfl (lv_at hl 1 rfl) ?_
      refine lv_icmp_ge (tgt := 134) hx hb dX8_drift_38 (by decide) (fun c21 => ?_) (fun c21 => ?_)
      · replace h := if_t c21 h
        exact K x2 ft_w (Option.some.inj h) _ _ _ hP hS (lv_sub hl [2] rfl)
      · replace h := if_f c21 h
        refine lv_aload_n hx hb dX8_drift_41 rfl (lv_at hl 0 rfl) ?_
        refine va_get (ci := 8) (v := .ref qt_w) (C := RX8) (T := TX8) (N := 35) hx hb hts hiX8 hown hK hP 0 rfl rfl 0 (by decide) fl7 (fun _ h9 => h9) rfl dX8_drift_42 ?_
        refine lv_bipush (v := 48) hx hb dX8_drift_45 (by decide) ?_
        refine lv_aload_n hx hb dX8_drift_47 rfl (lv_at hl 0 rfl) ?_
        refine lv_iconst (v := 4) hx hb dX8_drift_48 (by decide) ?_
        replace h := bd_el h
        obtain ⟨⟨r22, g23⟩, hc24, h⟩ := h
        refine callVI (rest := [.int 48, .ref qt_w]) ⟨hx, hb, hml, hown, hts⟩ (ctX8_draw l D cI cZ cB cS kK kV _ qt qt_w qt_isKept qt_value qt_weight qt_newTube qt_newPrice qt_newLow qt_newHigh qt_newGoods qt_rhythm qt_rhythmLong qt_slug qt_text qt_of qt_buyerColumn qt_buyerKind qt_buyerCoins qt_tryRow qt_tryLong qt_tryFree it_kinds it_columns it_slugs it_newKinds it_newColumns it_newSlugs it_rhythmTold it_textSize it_at it_first it_length it_faultOf it_fault it_buyerMany it_tryMany ft_w 4 N r22 g23 hc24) (cwV 1 hts gX8_drift_X8_draw rfl rfl rfl hdX8_draw ⟨Nat.le_of_ble_eq_true rfl, Nat.le_of_ble_eq_true rfl⟩) hK hN hX hP (dF hD rfl) hS hA [0, 1] (mcC rfl (mcC rfl mcN)) (by decide +kernel) [(qt, .inr (8, [.ref qt_w, .ref qt_isKept, .ref qt_value, .ref qt_weight, .ref qt_newTube, .ref qt_newPrice, .ref qt_newLow, .ref qt_newHigh, .ref qt_newGoods, .ref qt_rhythm, .ref qt_rhythmLong, .ref qt_slug, .int it_kinds, .int it_columns, .int it_slugs, .int it_newKinds, .int it_newColumns, .int it_newSlugs, .int it_rhythmTold, .ref qt_text, .int it_textSize, .int it_at, .int it_first, .int it_length, .int it_faultOf, .int it_fault, .ref qt_of, .ref qt_buyerColumn, .ref qt_buyerKind, .ref qt_buyerCoins, .int it_buyerMany, .ref qt_tryRow, .ref qt_tryLong, .ref qt_tryFree, .int it_tryMany])), (qt_w, .inl (cI, 240, .inl g23)), (qt_weight, .inl (cI, 10, .inl ft_weight)), (qt_value, .inl (cI, 10, .inl ft_value))] [2, 3] (mcC rfl (mcC rfl mcN)) ((mcC rfl (mcC rfl mcN)).trans (mcC rfl (mcC rfl mcN)).symm) 4 rfl (by decide +kernel) (va_recv hK hP (ci := 8) (q0 := 0) rfl rfl) rfl hl.1 rfl (Nat.le_of_ble_eq_true rfl) ⟨Nat.zero_le _, Nat.zero_le _⟩ dX8_drift_49 (fun H locs hP hS => ?_)
        replace h := ck_el h
        obtain ⟨hi25, h⟩ := h
        refine va_iast hx hb hK hP (dF hD rfl) hS 1 0 rfl rfl hi25 dX8_drift_52 (fun H locs hP _ hS => ?_)
        replace hP : va_P D vwCl [(qt, .inr (8, [.ref qt_w, .ref qt_isKept, .ref qt_value, .ref qt_weight, .ref qt_newTube, .ref qt_newPrice, .ref qt_newLow, .ref qt_newHigh, .ref qt_newGoods, .ref qt_rhythm, .ref qt_rhythmLong, .ref qt_slug, .int it_kinds, .int it_columns, .int it_slugs, .int it_newKinds, .int it_newColumns, .int it_newSlugs, .int it_rhythmTold, .ref qt_text, .int it_textSize, .int it_at, .int it_first, .int it_length, .int it_faultOf, .int it_fault, .ref qt_of, .ref qt_buyerColumn, .ref qt_buyerKind, .ref qt_buyerCoins, .int it_buyerMany, .ref qt_tryRow, .ref qt_tryLong, .ref qt_tryFree, .int it_tryMany])), (qt_w, .inl (cI, 240, .inl (upd g23 (Int32.toNatClampNeg 48) r22))), (qt_weight, .inl (cI, 10, .inl ft_weight)), (qt_value, .inl (cI, 10, .inl ft_value))] H := hP
        refine lv_iconst (v := 0) hx hb dX8_drift_53 (by decide) ?_
        refine lv_istore (lv' := [(4, .int 0), (0, .ref qt), (1, .int x1), (2, .int x2), (3, .int x3)]) hx hb dX8_drift_54 hl (by decide) rfl (fun ls hl => ?_)
        replace h := bd_el h
        obtain ⟨o26, ho26, h⟩ := h
        refine lp56 N x1 x2 x3 0 (upd g23 (Int32.toNatClampNeg 48) r22) _ _ _ o26 ho26 hP hS (lv_sub hl [1, 2, 3, 4, 0] rfl) (fun n27 g28 eo H locs ls hP hS hl => ?_)
        subst eo
        obtain ⟨n29, en29⟩ : ∃ z : Int32, z = x3 + 1 := ⟨_, rfl⟩
        replace h := lt_at en29 h
        refine lv_iinc (v := n29) (lv' := [(3, .int n29), (0, .ref qt), (1, .int x1), (2, .int n27)]) hx hb dX8_drift_128 hl (k := 3) rfl (by rw [en29]; rfl) (by decide) rfl (fun ls hl => ?_)
        refine lv_goto (tgt := 36) hx hb dX8_drift_131 (by decide) ?_
        exact ih x1 n27 n29 g28 _ _ _ o h hP hS (lv_sub hl [1, 2, 3, 0] rfl) K
  unfold fX8_drift at h
  refine lv_iload_n hx hb dX8_drift_0 rfl (lv_at hl 1 rfl) ?_
  refine lv_i2l (v := Int32.toInt64 x1) hx hb dX8_drift_1 rfl ?_
  refine lv_lconst (v := 1) hx hb dX8_drift_2 (by decide) ?_
  refine lv_ldc2 (v := 99) hx hb hown cn222 dX8_drift_3 ?_
  replace h := bd_el h
  obtain ⟨r30, hc31, h⟩ := h
  refine callSI (rest := []) ⟨hx, hb, hml, hown, hts⟩ (ctX8_in l D cI cZ cB cS kK kV _ (Int32.toInt64 x1) 1 99 N r30 hc31) (va_cwS 3 hts gX8_drift_X8_in rfl rfl rfl hdX8_in ⟨Nat.le_of_ble_eq_true rfl, Nat.le_of_ble_eq_true rfl⟩) hK hN hX hP (dF hD rfl) hS hA [] mcN (by decide +kernel) [(qt, .inr (8, [.ref qt_w, .ref qt_isKept, .ref qt_value, .ref qt_weight, .ref qt_newTube, .ref qt_newPrice, .ref qt_newLow, .ref qt_newHigh, .ref qt_newGoods, .ref qt_rhythm, .ref qt_rhythmLong, .ref qt_slug, .int it_kinds, .int it_columns, .int it_slugs, .int it_newKinds, .int it_newColumns, .int it_newSlugs, .int it_rhythmTold, .ref qt_text, .int it_textSize, .int it_at, .int it_first, .int it_length, .int it_faultOf, .int it_fault, .ref qt_of, .ref qt_buyerColumn, .ref qt_buyerKind, .ref qt_buyerCoins, .int it_buyerMany, .ref qt_tryRow, .ref qt_tryLong, .ref qt_tryFree, .int it_tryMany])), (qt_w, .inl (cI, 240, .inl ft_w)), (qt_weight, .inl (cI, 10, .inl ft_weight)), (qt_value, .inl (cI, 10, .inl ft_value))] [0, 1, 2, 3] mcN ((mcC rfl (mcC rfl (mcC rfl (mcC rfl mcN)))).trans (mcC rfl (mcC rfl (mcC rfl (mcC rfl mcN)))).symm) 4 rfl (by decide +kernel) rfl hl.1 rfl (Nat.le_of_ble_eq_true rfl) ⟨Nat.zero_le _, Nat.zero_le _⟩ dX8_drift_6 (fun H locs hP hS => ?_)
  refine lv_if_ne (tgt := 15) hx hb dX8_drift_9 (by decide) (fun c32 => ?_) (fun c32 => ?_)
  · replace h := if_f c32 h
    refine lv_aload_n hx hb dX8_drift_15 rfl (lv_at hl 0 rfl) ?_
    refine va_get (ci := 8) (v := .int it_kinds) (C := RX8) (T := TX8) (N := 35) hx hb hts hiX8 hown hK hP 0 rfl rfl 12 (by decide) fl164 (fun _ h9 => h9) rfl dX8_drift_16 ?_
    refine lv_if_eq (tgt := 29) hx hb dX8_drift_19 (by decide) (fun c33 => ?_) (fun c33 => ?_)
    · replace h := if_t c33 h
      refine lv_ldc (v := (-1000000003)) hx hb hown cn228 dX8_drift_29 ?_
      simp only [Option.some.injEq, Prod.mk.injEq] at h
      obtain ⟨rfl, rfl⟩ := h
      exact hret _ _ _ _ hP hS rfl dX8_drift_31
    · replace h := if_f c33 h
      refine lv_aload_n hx hb dX8_drift_22 rfl (lv_at hl 0 rfl) ?_
      refine va_get (ci := 8) (v := .int it_columns) (C := RX8) (T := TX8) (N := 35) hx hb hts hiX8 hown hK hP 0 rfl rfl 13 (by decide) fl167 (fun _ h9 => h9) rfl dX8_drift_23 ?_
      refine lv_if_ne (tgt := 32) hx hb dX8_drift_26 (by decide) (fun c34 => ?_) (fun c34 => ?_)
      · replace h := if_f c34 h
        refine lv_iconst (v := 0) hx hb dX8_drift_32 (by decide) ?_
        refine lv_istore_n (lv' := [(2, .int 0), (0, .ref qt), (1, .int x1)]) hx hb dX8_drift_33 rfl hl (by decide) rfl (fun ls hl => ?_)
        refine lv_iconst (v := 0) hx hb dX8_drift_34 (by decide) ?_
        refine lv_istore_n (lv' := [(3, .int 0), (2, .int 0), (0, .ref qt), (1, .int x1)]) hx hb dX8_drift_35 rfl hl (by decide) rfl (fun ls hl => ?_)
        replace h := bd_el h
        obtain ⟨o35, ho35, h⟩ := h
        refine lp36 N x1 0 0 ft_w _ _ _ o35 ho35 hP hS (lv_sub hl [2, 3, 1, 0] rfl) (fun n36 g37 eo H locs ls hP hS hl => ?_)
        subst eo
        refine lv_iload_n hx hb dX8_drift_134 rfl (lv_at hl 0 rfl) ?_
        simp only [Option.some.injEq, Prod.mk.injEq] at h
        obtain ⟨rfl, rfl⟩ := h
        exact hret _ _ _ _ hP hS rfl dX8_drift_135
      · replace h := if_t c34 h
        refine lv_ldc (v := (-1000000003)) hx hb hown cn228 dX8_drift_29 ?_
        simp only [Option.some.injEq, Prod.mk.injEq] at h
        obtain ⟨rfl, rfl⟩ := h
        exact hret _ _ _ _ hP hS rfl dX8_drift_31
  · replace h := if_t c32 h
    refine lv_ldc (v := (-1000000002)) hx hb hown cn81 dX8_drift_12 ?_
    simp only [Option.some.injEq, Prod.mk.injEq] at h
    obtain ⟨rfl, rfl⟩ := h
    exact hret _ _ _ _ hP hS rfl dX8_drift_14
theorem hdX8_drift : yX8_drift.cls = RX8 ∧ yX8_drift.cls ≠ "java/lang/invoke/MethodHandle" ∧ yX8_drift.cls ≠ "java/lang/invoke/VarHandle" ∧ (parseMethodDescriptor yX8_drift.desc).map (fun d => d.parameters.length) = some 1 := by decide +kernel

noncomputable def fX8_copy_L2 (N : Nat) : Nat → Int32 → Int32 → Int32 → (Nat → Int32) → Option (Nat → Int32)
  | 0, _, _, _, _ => none
  | k + 1, x1, x2, x3, ft_w => (if 60 ≤ x3 then some ft_w else ck (x1 + x3) 240 (lt (ft_w (Int32.toNatClampNeg (x1 + x3))) fun n3 => ck (x2 + x3) 240 (lt (x3 + 1) fun n5 => fX8_copy_L2 N k x1 x2 n5 (upd ft_w (Int32.toNatClampNeg (x2 + x3)) n3))))
theorem fX8_copy_L2_s (N : Nat) (k : Nat) (x1 : Int32) (x2 : Int32) (x3 : Int32) (ft_w : Nat → Int32) : fX8_copy_L2 N (k + 1) x1 x2 x3 ft_w = ((if 60 ≤ x3 then some ft_w else ck (x1 + x3) 240 (lt (ft_w (Int32.toNatClampNeg (x1 + x3))) fun n3 => ck (x2 + x3) 240 (lt (x3 + 1) fun n5 => fX8_copy_L2 N k x1 x2 n5 (upd ft_w (Int32.toNatClampNeg (x2 + x3)) n3))))) := rfl
noncomputable def fX8_copy (N : Nat) (ft_w : Nat → Int32) (x1 : Int32) (x2 : Int32) : Option (Nat → Int32) := bd (fX8_copy_L2 N N x1 x2 0 ft_w) fun g7 => some g7
set_option maxHeartbeats 4000000 in
set_option maxRecDepth 100000 in
theorem ctX8_copy (l : Launch) (D : va_G) (cI cZ cB cS : ClassId) (kK kV : Nat → Nat) (sz : Nat) (qt qt_w qt_isKept qt_value qt_weight qt_newTube qt_newPrice qt_newLow qt_newHigh qt_newGoods qt_rhythm qt_rhythmLong qt_slug qt_text qt_of qt_buyerColumn qt_buyerKind qt_buyerCoins qt_tryRow qt_tryLong qt_tryFree : Nat) (it_kinds : Int32) (it_columns : Int32) (it_slugs : Int32) (it_newKinds : Int32) (it_newColumns : Int32) (it_newSlugs : Int32) (it_rhythmTold : Int32) (it_textSize : Int32) (it_at : Int32) (it_first : Int32) (it_length : Int32) (it_faultOf : Int32) (it_fault : Int32) (it_buyerMany : Int32) (it_tryMany : Int32) (ft_w : Nat → Int32) (x1 : Int32) (x2 : Int32) (N : Nat) (w_ft_w : Nat → Int32) (h : fX8_copy N ft_w x1 x2 = some w_ft_w) : CtV l yX8_copy wsX8_copy { frames := 0, cells := 0, slots := 0, locals := 0 } D (TY cI cZ cB cS) kK kV [.ref qt, .int x1, .int x2] [(qt, .inr (8, [.ref qt_w, .ref qt_isKept, .ref qt_value, .ref qt_weight, .ref qt_newTube, .ref qt_newPrice, .ref qt_newLow, .ref qt_newHigh, .ref qt_newGoods, .ref qt_rhythm, .ref qt_rhythmLong, .ref qt_slug, .int it_kinds, .int it_columns, .int it_slugs, .int it_newKinds, .int it_newColumns, .int it_newSlugs, .int it_rhythmTold, .ref qt_text, .int it_textSize, .int it_at, .int it_first, .int it_length, .int it_faultOf, .int it_fault, .ref qt_of, .ref qt_buyerColumn, .ref qt_buyerKind, .ref qt_buyerCoins, .int it_buyerMany, .ref qt_tryRow, .ref qt_tryLong, .ref qt_tryFree, .int it_tryMany])), (qt_w, .inl (cI, 240, .inl ft_w))] [(qt, .inr (8, [.ref qt_w, .ref qt_isKept, .ref qt_value, .ref qt_weight, .ref qt_newTube, .ref qt_newPrice, .ref qt_newLow, .ref qt_newHigh, .ref qt_newGoods, .ref qt_rhythm, .ref qt_rhythmLong, .ref qt_slug, .int it_kinds, .int it_columns, .int it_slugs, .int it_newKinds, .int it_newColumns, .int it_newSlugs, .int it_rhythmTold, .ref qt_text, .int it_textSize, .int it_at, .int it_first, .int it_length, .int it_faultOf, .int it_fault, .ref qt_of, .ref qt_buyerColumn, .ref qt_buyerKind, .ref qt_buyerCoins, .int it_buyerMany, .ref qt_tryRow, .ref qt_tryLong, .ref qt_tryFree, .int it_tryMany])), (qt_w, .inl (cI, 240, .inl w_ft_w))] sz := by
  refine mkV (cc := cX8_copy) (maxL := 4) (own := RX8) (by decide) rfl rfl (Nat.le_of_ble_eq_true rfl) ?_
  intro p e s m args below meth c A Z ls hx hb hml hown hts hK hN hX hP hD hA hS hret hl
  have hl : lv_has ls 4 [(0, .ref qt), (1, .int x1), (2, .int x2)] := hl
  have fl7 : (Cond.fieldLink RX8 7 "SoupWallModel" "w" "[I").before args s = true := hts _ (List.mem_of_getElem? (l := wsX8_copy) (i := 1) rfl)
  have hiX8 : ∀ w ∈ wsX80, w ∈ wsX8_copy := fun w h => List.mem_cons_of_mem _ (List.mem_append_right _ h)
  have lp2 : ∀ (k : Nat) (x1 : Int32) (x2 : Int32) (x3 : Int32) (ft_w : Nat → Int32) (H : Heap) (locs : List Loc) (ls : Array Slot) (o : Nat → Int32), fX8_copy_L2 N k x1 x2 x3 ft_w = some o → va_P D vwCl [(qt, .inr (8, [.ref qt_w, .ref qt_isKept, .ref qt_value, .ref qt_weight, .ref qt_newTube, .ref qt_newPrice, .ref qt_newLow, .ref qt_newHigh, .ref qt_newGoods, .ref qt_rhythm, .ref qt_rhythmLong, .ref qt_slug, .int it_kinds, .int it_columns, .int it_slugs, .int it_newKinds, .int it_newColumns, .int it_newSlugs, .int it_rhythmTold, .ref qt_text, .int it_textSize, .int it_at, .int it_first, .int it_length, .int it_faultOf, .int it_fault, .ref qt_of, .ref qt_buyerColumn, .ref qt_buyerKind, .ref qt_buyerCoins, .int it_buyerMany, .ref qt_tryRow, .ref qt_tryLong, .ref qt_tryFree, .int it_tryMany])), (qt_w, .inl (cI, 240, .inl ft_w))] H → va_S A s.heap H locs → lv_has ls 4 [(0, .ref qt), (1, .int x1), (2, .int x2), (3, .int x3)] → (∀ (e_ft_w : Nat → Int32), e_ft_w = o → ∀ (H : Heap) (locs : List Loc) (ls : Array Slot), va_P D vwCl [(qt, .inr (8, [.ref qt_w, .ref qt_isKept, .ref qt_value, .ref qt_weight, .ref qt_newTube, .ref qt_newPrice, .ref qt_newLow, .ref qt_newHigh, .ref qt_newGoods, .ref qt_rhythm, .ref qt_rhythmLong, .ref qt_slug, .int it_kinds, .int it_columns, .int it_slugs, .int it_newKinds, .int it_newColumns, .int it_newSlugs, .int it_rhythmTold, .ref qt_text, .int it_textSize, .int it_at, .int it_first, .int it_length, .int it_faultOf, .int it_fault, .ref qt_of, .ref qt_buyerColumn, .ref qt_buyerKind, .ref qt_buyerCoins, .int it_buyerMany, .ref qt_tryRow, .ref qt_tryLong, .ref qt_tryFree, .int it_tryMany])), (qt_w, .inl (cI, 240, .inl e_ft_w))] H → va_S A s.heap H locs → lv_has ls 4 [] → W p l e ({ frames := 0, cells := 0, slots := 0, locals := 0 } : Room) s m args below meth c H locs 0 0 Z (F0 m 30 ls [])) → W p l e ({ frames := 0, cells := 0, slots := 0, locals := 0 } : Room) s m args below meth c H locs 0 0 Z (F0 m 2 ls []) := by
    intro k
    induction k with
    | zero =>
      intro x1 x2 x3 ft_w H locs ls o h
      exact nomatch (show (none : Option (Nat → Int32)) = some o from h)
    | succ k ih =>
      intro x1 x2 x3 ft_w H locs ls o h hP hS hl K
      rw [fX8_copy_L2_s] at h
      refine lv_iload_n hx hb dX8_copy_2 rfl (lv_at hl 3 rfl) ?_
      refine lv_bipush (v := 60) hx hb dX8_copy_3 (by decide) ?_
      refine lv_icmp_ge (tgt := 30) hx hb dX8_copy_5 (by decide) (fun c1 => ?_) (fun c1 => ?_)
      · replace h := if_t c1 h
        exact K ft_w (Option.some.inj h) _ _ _ hP hS (lv_sub hl [] rfl)
      · replace h := if_f c1 h
        refine lv_aload_n hx hb dX8_copy_8 rfl (lv_at hl 0 rfl) ?_
        refine va_get (ci := 8) (v := .ref qt_w) (C := RX8) (T := TX8) (N := 35) hx hb hts hiX8 hown hK hP 0 rfl rfl 0 (by decide) fl7 (fun _ h9 => h9) rfl dX8_copy_9 ?_
        refine lv_iload_n hx hb dX8_copy_12 rfl (lv_at hl 2 rfl) ?_
        refine lv_iload_n hx hb dX8_copy_13 rfl (lv_at hl 3 rfl) ?_
        refine lv_iadd hx hb dX8_copy_14 ?_
        refine lv_aload_n hx hb dX8_copy_15 rfl (lv_at hl 0 rfl) ?_
        refine va_get (ci := 8) (v := .ref qt_w) (C := RX8) (T := TX8) (N := 35) hx hb hts hiX8 hown hK hP 0 rfl rfl 0 (by decide) fl7 (fun _ h9 => h9) rfl dX8_copy_16 ?_
        refine lv_iload_n hx hb dX8_copy_19 rfl (lv_at hl 1 rfl) ?_
        refine lv_iload_n hx hb dX8_copy_20 rfl (lv_at hl 3 rfl) ?_
        refine lv_iadd hx hb dX8_copy_21 ?_
        replace h := ck_el h
        obtain ⟨hi2, h⟩ := h
        refine va_iald hx hb hK hP 1 0 rfl rfl hi2 dX8_copy_22 ?_
        refine lv_topi (fun n3 en3 => ?_)
        replace h := lt_at en3 h
        replace h := ck_el h
        obtain ⟨hi4, h⟩ := h
        refine va_iast hx hb hK hP (dF hD rfl) hS 1 0 rfl rfl hi4 dX8_copy_23 (fun H locs hP _ hS => ?_)
        replace hP : va_P D vwCl [(qt, .inr (8, [.ref qt_w, .ref qt_isKept, .ref qt_value, .ref qt_weight, .ref qt_newTube, .ref qt_newPrice, .ref qt_newLow, .ref qt_newHigh, .ref qt_newGoods, .ref qt_rhythm, .ref qt_rhythmLong, .ref qt_slug, .int it_kinds, .int it_columns, .int it_slugs, .int it_newKinds, .int it_newColumns, .int it_newSlugs, .int it_rhythmTold, .ref qt_text, .int it_textSize, .int it_at, .int it_first, .int it_length, .int it_faultOf, .int it_fault, .ref qt_of, .ref qt_buyerColumn, .ref qt_buyerKind, .ref qt_buyerCoins, .int it_buyerMany, .ref qt_tryRow, .ref qt_tryLong, .ref qt_tryFree, .int it_tryMany])), (qt_w, .inl (cI, 240, .inl (upd ft_w (Int32.toNatClampNeg (x2 + x3)) n3)))] H := hP
        obtain ⟨n5, en5⟩ : ∃ z : Int32, z = x3 + 1 := ⟨_, rfl⟩
        replace h := lt_at en5 h
        refine lv_iinc (v := n5) (lv' := [(3, .int n5), (0, .ref qt), (1, .int x1), (2, .int x2)]) hx hb dX8_copy_24 hl (k := 3) rfl (by rw [en5]; rfl) (by decide) rfl (fun ls hl => ?_)
        refine lv_goto (tgt := 2) hx hb dX8_copy_27 (by decide) ?_
        exact ih x1 x2 n5 (upd ft_w (Int32.toNatClampNeg (x2 + x3)) n3) _ _ _ o h hP hS (lv_sub hl [1, 2, 3, 0] rfl) K
  unfold fX8_copy at h
  refine lv_iconst (v := 0) hx hb dX8_copy_0 (by decide) ?_
  refine lv_istore_n (lv' := [(3, .int 0), (0, .ref qt), (1, .int x1), (2, .int x2)]) hx hb dX8_copy_1 rfl hl (by decide) rfl (fun ls hl => ?_)
  replace h := bd_el h
  obtain ⟨o6, ho6, h⟩ := h
  refine lp2 N x1 x2 0 ft_w _ _ _ o6 ho6 hP hS (lv_sub hl [1, 2, 3, 0] rfl) (fun g7 eo H locs ls hP hS hl => ?_)
  subst eo
  simp only [Option.some.injEq] at h
  subst h
  exact hret _ _ _ _ hP hS dX8_copy_30
theorem hdX8_copy : yX8_copy.cls = RX8 ∧ yX8_copy.cls ≠ "java/lang/invoke/MethodHandle" ∧ yX8_copy.cls ≠ "java/lang/invoke/VarHandle" ∧ (parseMethodDescriptor yX8_copy.desc).map (fun d => d.parameters.length) = some 2 := by decide +kernel

noncomputable def fX8_layRow_L12 (N : Nat) : Nat → Int32 → Int32 → Int32 → (Nat → Int32) → Option (Int32 × (Nat → Int32))
  | 0, _, _, _, _ => none
  | k + 1, x2, x3, x4, ft_of => (if x4 < 0 then some (x3, ft_of) else lt (8 - (x2 - x2 / 9 * 9)) fun n2 => ck x4 5 (lt (x2 / 9) fun n4 => lt (x3 + ((upd ft_of (Int32.toNatClampNeg x4) n2) (Int32.toNatClampNeg x4))) fun n5 => lt (x4 + (-1)) fun n6 => fX8_layRow_L12 N k n4 n5 n6 (upd ft_of (Int32.toNatClampNeg x4) n2)))
theorem fX8_layRow_L12_s (N : Nat) (k : Nat) (x2 : Int32) (x3 : Int32) (x4 : Int32) (ft_of : Nat → Int32) : fX8_layRow_L12 N (k + 1) x2 x3 x4 ft_of = ((if x4 < 0 then some (x3, ft_of) else lt (8 - (x2 - x2 / 9 * 9)) fun n2 => ck x4 5 (lt (x2 / 9) fun n4 => lt (x3 + ((upd ft_of (Int32.toNatClampNeg x4) n2) (Int32.toNatClampNeg x4))) fun n5 => lt (x4 + (-1)) fun n6 => fX8_layRow_L12 N k n4 n5 n6 (upd ft_of (Int32.toNatClampNeg x4) n2)))) := rfl
noncomputable def fX8_layRow (N : Nat) (it_kinds : Int32) (ft_of : Nat → Int32) (x1 : Int32) : Option (Int32 × (Nat → Int32)) := lt (it_kinds - 1) fun n7 => bd (fX8_layRow_L12 N N x1 0 n7 ft_of) fun (n9, g10) => some (n9, g10)
set_option maxHeartbeats 4000000 in
set_option maxRecDepth 100000 in
theorem ctX8_layRow (l : Launch) (D : va_G) (cI cZ cB cS : ClassId) (kK kV : Nat → Nat) (sz : Nat) (qt qt_w qt_isKept qt_value qt_weight qt_newTube qt_newPrice qt_newLow qt_newHigh qt_newGoods qt_rhythm qt_rhythmLong qt_slug qt_text qt_of qt_buyerColumn qt_buyerKind qt_buyerCoins qt_tryRow qt_tryLong qt_tryFree : Nat) (it_kinds : Int32) (it_columns : Int32) (it_slugs : Int32) (it_newKinds : Int32) (it_newColumns : Int32) (it_newSlugs : Int32) (it_rhythmTold : Int32) (it_textSize : Int32) (it_at : Int32) (it_first : Int32) (it_length : Int32) (it_faultOf : Int32) (it_fault : Int32) (it_buyerMany : Int32) (it_tryMany : Int32) (ft_of : Nat → Int32) (x1 : Int32) (N : Nat) (r0 : Int32) (w_ft_of : Nat → Int32) (h : fX8_layRow N it_kinds ft_of x1 = some (r0, w_ft_of)) : CtI l yX8_layRow wsX8_layRow { frames := 0, cells := 0, slots := 0, locals := 0 } D (TY cI cZ cB cS) kK kV [.ref qt, .int x1] [(qt, .inr (8, [.ref qt_w, .ref qt_isKept, .ref qt_value, .ref qt_weight, .ref qt_newTube, .ref qt_newPrice, .ref qt_newLow, .ref qt_newHigh, .ref qt_newGoods, .ref qt_rhythm, .ref qt_rhythmLong, .ref qt_slug, .int it_kinds, .int it_columns, .int it_slugs, .int it_newKinds, .int it_newColumns, .int it_newSlugs, .int it_rhythmTold, .ref qt_text, .int it_textSize, .int it_at, .int it_first, .int it_length, .int it_faultOf, .int it_fault, .ref qt_of, .ref qt_buyerColumn, .ref qt_buyerKind, .ref qt_buyerCoins, .int it_buyerMany, .ref qt_tryRow, .ref qt_tryLong, .ref qt_tryFree, .int it_tryMany])), (qt_of, .inl (cI, 5, .inl ft_of))] [(qt, .inr (8, [.ref qt_w, .ref qt_isKept, .ref qt_value, .ref qt_weight, .ref qt_newTube, .ref qt_newPrice, .ref qt_newLow, .ref qt_newHigh, .ref qt_newGoods, .ref qt_rhythm, .ref qt_rhythmLong, .ref qt_slug, .int it_kinds, .int it_columns, .int it_slugs, .int it_newKinds, .int it_newColumns, .int it_newSlugs, .int it_rhythmTold, .ref qt_text, .int it_textSize, .int it_at, .int it_first, .int it_length, .int it_faultOf, .int it_fault, .ref qt_of, .ref qt_buyerColumn, .ref qt_buyerKind, .ref qt_buyerCoins, .int it_buyerMany, .ref qt_tryRow, .ref qt_tryLong, .ref qt_tryFree, .int it_tryMany])), (qt_of, .inl (cI, 5, .inl w_ft_of))] sz r0 := by
  refine mkI (cc := cX8_layRow) (maxL := 5) (rt := .int) (own := RX8) (by decide) rfl rfl (Nat.le_of_ble_eq_true rfl) ?_
  intro p e s m args below meth c A Z ls hx hb hml hown hts hK hN hX hP hD hA hS hret hl
  have hl : lv_has ls 5 [(0, .ref qt), (1, .int x1)] := hl
  have fl54 : (Cond.fieldLink RX8 54 "SoupWallModel" "of" "[I").before args s = true := hts _ (List.mem_of_getElem? (l := wsX8_layRow) (i := 2) rfl)
  have hiX8 : ∀ w ∈ wsX80, w ∈ wsX8_layRow := fun w h => List.mem_cons_of_mem _ (List.mem_append_right _ h)
  have fl164 : (Cond.fieldLink RX8 164 "SoupWallModel" "kinds" "I").before args s = true := hts _ (List.mem_of_getElem? (l := wsX8_layRow) (i := 1) rfl)
  have lp12 : ∀ (k : Nat) (x2 : Int32) (x3 : Int32) (x4 : Int32) (ft_of : Nat → Int32) (H : Heap) (locs : List Loc) (ls : Array Slot) (o : Int32 × (Nat → Int32)), fX8_layRow_L12 N k x2 x3 x4 ft_of = some o → va_P D vwCl [(qt, .inr (8, [.ref qt_w, .ref qt_isKept, .ref qt_value, .ref qt_weight, .ref qt_newTube, .ref qt_newPrice, .ref qt_newLow, .ref qt_newHigh, .ref qt_newGoods, .ref qt_rhythm, .ref qt_rhythmLong, .ref qt_slug, .int it_kinds, .int it_columns, .int it_slugs, .int it_newKinds, .int it_newColumns, .int it_newSlugs, .int it_rhythmTold, .ref qt_text, .int it_textSize, .int it_at, .int it_first, .int it_length, .int it_faultOf, .int it_fault, .ref qt_of, .ref qt_buyerColumn, .ref qt_buyerKind, .ref qt_buyerCoins, .int it_buyerMany, .ref qt_tryRow, .ref qt_tryLong, .ref qt_tryFree, .int it_tryMany])), (qt_of, .inl (cI, 5, .inl ft_of))] H → va_S A s.heap H locs → lv_has ls 5 [(0, .ref qt), (2, .int x2), (3, .int x3), (4, .int x4)] → (∀ (e3 : Int32) (e_ft_of : Nat → Int32), (e3, e_ft_of) = o → ∀ (H : Heap) (locs : List Loc) (ls : Array Slot), va_P D vwCl [(qt, .inr (8, [.ref qt_w, .ref qt_isKept, .ref qt_value, .ref qt_weight, .ref qt_newTube, .ref qt_newPrice, .ref qt_newLow, .ref qt_newHigh, .ref qt_newGoods, .ref qt_rhythm, .ref qt_rhythmLong, .ref qt_slug, .int it_kinds, .int it_columns, .int it_slugs, .int it_newKinds, .int it_newColumns, .int it_newSlugs, .int it_rhythmTold, .ref qt_text, .int it_textSize, .int it_at, .int it_first, .int it_length, .int it_faultOf, .int it_fault, .ref qt_of, .ref qt_buyerColumn, .ref qt_buyerKind, .ref qt_buyerCoins, .int it_buyerMany, .ref qt_tryRow, .ref qt_tryLong, .ref qt_tryFree, .int it_tryMany])), (qt_of, .inl (cI, 5, .inl e_ft_of))] H → va_S A s.heap H locs → lv_has ls 5 [(3, .int e3)] → W p l e ({ frames := 0, cells := 0, slots := 0, locals := 0 } : Room) s m args below meth c H locs 0 0 Z (F0 m 52 ls [])) → W p l e ({ frames := 0, cells := 0, slots := 0, locals := 0 } : Room) s m args below meth c H locs 0 0 Z (F0 m 12 ls []) := by
    intro k
    induction k with
    | zero =>
      intro x2 x3 x4 ft_of H locs ls o h
      exact nomatch (show (none : Option (Int32 × (Nat → Int32))) = some o from h)
    | succ k ih =>
      intro x2 x3 x4 ft_of H locs ls o h hP hS hl K
      rw [fX8_layRow_L12_s] at h
      refine lv_iload hx hb dX8_layRow_12 (lv_at hl 3 rfl) ?_
      refine lv_if_lt (tgt := 52) hx hb dX8_layRow_14 (by decide) (fun c1 => ?_) (fun c1 => ?_)
      · replace h := if_t c1 h
        exact K x3 ft_of (Option.some.inj h) _ _ _ hP hS (lv_sub hl [2] rfl)
      · replace h := if_f c1 h
        refine lv_aload_n hx hb dX8_layRow_17 rfl (lv_at hl 0 rfl) ?_
        refine va_get (ci := 8) (v := .ref qt_of) (C := RX8) (T := TX8) (N := 35) hx hb hts hiX8 hown hK hP 0 rfl rfl 26 (by decide) fl54 (fun _ h9 => h9) rfl dX8_layRow_18 ?_
        refine lv_iload hx hb dX8_layRow_21 (lv_at hl 3 rfl) ?_
        refine lv_bipush (v := 8) hx hb dX8_layRow_23 (by decide) ?_
        refine lv_iload_n hx hb dX8_layRow_25 rfl (lv_at hl 1 rfl) ?_
        refine lv_bipush (v := 9) hx hb dX8_layRow_26 (by decide) ?_
        refine lv_irem hx hb dX8_layRow_28 (by decide) ?_
        refine lv_isub hx hb dX8_layRow_29 ?_
        refine lv_topi (fun n2 en2 => ?_)
        replace h := lt_at en2 h
        replace h := ck_el h
        obtain ⟨hi3, h⟩ := h
        refine va_iast hx hb hK hP (dF hD rfl) hS 1 0 rfl rfl hi3 dX8_layRow_30 (fun H locs hP _ hS => ?_)
        replace hP : va_P D vwCl [(qt, .inr (8, [.ref qt_w, .ref qt_isKept, .ref qt_value, .ref qt_weight, .ref qt_newTube, .ref qt_newPrice, .ref qt_newLow, .ref qt_newHigh, .ref qt_newGoods, .ref qt_rhythm, .ref qt_rhythmLong, .ref qt_slug, .int it_kinds, .int it_columns, .int it_slugs, .int it_newKinds, .int it_newColumns, .int it_newSlugs, .int it_rhythmTold, .ref qt_text, .int it_textSize, .int it_at, .int it_first, .int it_length, .int it_faultOf, .int it_fault, .ref qt_of, .ref qt_buyerColumn, .ref qt_buyerKind, .ref qt_buyerCoins, .int it_buyerMany, .ref qt_tryRow, .ref qt_tryLong, .ref qt_tryFree, .int it_tryMany])), (qt_of, .inl (cI, 5, .inl (upd ft_of (Int32.toNatClampNeg x4) n2)))] H := hP
        refine lv_iload_n hx hb dX8_layRow_31 rfl (lv_at hl 1 rfl) ?_
        refine lv_bipush (v := 9) hx hb dX8_layRow_32 (by decide) ?_
        refine lv_idiv hx hb dX8_layRow_34 (by decide) ?_
        refine lv_topi (fun n4 en4 => ?_)
        replace h := lt_at en4 h
        refine lv_istore_n (lv' := [(2, .int n4), (0, .ref qt), (3, .int x3), (4, .int x4)]) hx hb dX8_layRow_35 rfl hl (by decide) rfl (fun ls hl => ?_)
        refine lv_iload_n hx hb dX8_layRow_36 rfl (lv_at hl 2 rfl) ?_
        refine lv_aload_n hx hb dX8_layRow_37 rfl (lv_at hl 1 rfl) ?_
        refine va_get (ci := 8) (v := .ref qt_of) (C := RX8) (T := TX8) (N := 35) hx hb hts hiX8 hown hK hP 0 rfl rfl 26 (by decide) fl54 (fun _ h9 => h9) rfl dX8_layRow_38 ?_
        refine lv_iload hx hb dX8_layRow_41 (lv_at hl 3 rfl) ?_
        refine va_iald hx hb hK hP 1 0 rfl rfl hi3 dX8_layRow_43 ?_
        refine lv_iadd hx hb dX8_layRow_44 ?_
        refine lv_topi (fun n5 en5 => ?_)
        replace h := lt_at en5 h
        refine lv_istore_n (lv' := [(3, .int n5), (2, .int n4), (0, .ref qt), (4, .int x4)]) hx hb dX8_layRow_45 rfl hl (by decide) rfl (fun ls hl => ?_)
        obtain ⟨n6, en6⟩ : ∃ z : Int32, z = x4 + (-1) := ⟨_, rfl⟩
        replace h := lt_at en6 h
        refine lv_iinc (v := n6) (lv' := [(4, .int n6), (3, .int n5), (2, .int n4), (0, .ref qt)]) hx hb dX8_layRow_46 hl (k := 3) rfl (by rw [en6]; rfl) (by decide) rfl (fun ls hl => ?_)
        refine lv_goto (tgt := 12) hx hb dX8_layRow_49 (by decide) ?_
        exact ih n4 n5 n6 (upd ft_of (Int32.toNatClampNeg x4) n2) _ _ _ o h hP hS (lv_sub hl [3, 2, 1, 0] rfl) K
  unfold fX8_layRow at h
  refine lv_iload_n hx hb dX8_layRow_0 rfl (lv_at hl 1 rfl) ?_
  refine lv_istore_n (lv' := [(2, .int x1), (0, .ref qt), (1, .int x1)]) hx hb dX8_layRow_1 rfl hl (by decide) rfl (fun ls hl => ?_)
  refine lv_iconst (v := 0) hx hb dX8_layRow_2 (by decide) ?_
  refine lv_istore_n (lv' := [(3, .int 0), (2, .int x1), (0, .ref qt), (1, .int x1)]) hx hb dX8_layRow_3 rfl hl (by decide) rfl (fun ls hl => ?_)
  refine lv_aload_n hx hb dX8_layRow_4 rfl (lv_at hl 2 rfl) ?_
  refine va_get (ci := 8) (v := .int it_kinds) (C := RX8) (T := TX8) (N := 35) hx hb hts hiX8 hown hK hP 0 rfl rfl 12 (by decide) fl164 (fun _ h9 => h9) rfl dX8_layRow_5 ?_
  refine lv_iconst (v := 1) hx hb dX8_layRow_8 (by decide) ?_
  refine lv_isub hx hb dX8_layRow_9 ?_
  refine lv_topi (fun n7 en7 => ?_)
  replace h := lt_at en7 h
  refine lv_istore (lv' := [(4, .int n7), (3, .int 0), (2, .int x1), (0, .ref qt), (1, .int x1)]) hx hb dX8_layRow_10 hl (by decide) rfl (fun ls hl => ?_)
  replace h := bd_el h
  obtain ⟨o8, ho8, h⟩ := h
  refine lp12 N x1 0 n7 ft_of _ _ _ o8 ho8 hP hS (lv_sub hl [3, 2, 1, 0] rfl) (fun n9 g10 eo H locs ls hP hS hl => ?_)
  subst eo
  refine lv_iload_n hx hb dX8_layRow_52 rfl (lv_at hl 0 rfl) ?_
  simp only [Option.some.injEq, Prod.mk.injEq] at h
  obtain ⟨rfl, rfl⟩ := h
  exact hret _ _ _ _ hP hS rfl dX8_layRow_53
theorem hdX8_layRow : yX8_layRow.cls = RX8 ∧ yX8_layRow.cls ≠ "java/lang/invoke/MethodHandle" ∧ yX8_layRow.cls ≠ "java/lang/invoke/VarHandle" ∧ (parseMethodDescriptor yX8_layRow.desc).map (fun d => d.parameters.length) = some 1 := by decide +kernel

noncomputable def fX8_codes_L4 (N : Nat) : Nat → Int32 → Int32 → Int32 → Option (Int32)
  | 0, _, _, _ => none
  | k + 1, x1, x2, it_kinds => (if it_kinds ≤ x2 then some x1 else lt (x1 * 9) fun n2 => lt (x2 + 1) fun n3 => fX8_codes_L4 N k n2 n3 it_kinds)
theorem fX8_codes_L4_s (N : Nat) (k : Nat) (x1 : Int32) (x2 : Int32) (it_kinds : Int32) : fX8_codes_L4 N (k + 1) x1 x2 it_kinds = ((if it_kinds ≤ x2 then some x1 else lt (x1 * 9) fun n2 => lt (x2 + 1) fun n3 => fX8_codes_L4 N k n2 n3 it_kinds)) := rfl
noncomputable def fX8_codes (N : Nat) (it_kinds : Int32) : Option (Int32) := bd (fX8_codes_L4 N N 1 0 it_kinds) fun n5 => some n5
set_option maxHeartbeats 4000000 in
set_option maxRecDepth 100000 in
theorem ctX8_codes (l : Launch) (D : va_G) (cI cZ cB cS : ClassId) (kK kV : Nat → Nat) (sz : Nat) (qt qt_w qt_isKept qt_value qt_weight qt_newTube qt_newPrice qt_newLow qt_newHigh qt_newGoods qt_rhythm qt_rhythmLong qt_slug qt_text qt_of qt_buyerColumn qt_buyerKind qt_buyerCoins qt_tryRow qt_tryLong qt_tryFree : Nat) (it_kinds : Int32) (it_columns : Int32) (it_slugs : Int32) (it_newKinds : Int32) (it_newColumns : Int32) (it_newSlugs : Int32) (it_rhythmTold : Int32) (it_textSize : Int32) (it_at : Int32) (it_first : Int32) (it_length : Int32) (it_faultOf : Int32) (it_fault : Int32) (it_buyerMany : Int32) (it_tryMany : Int32)  (N : Nat) (r0 : Int32)  (h : fX8_codes N it_kinds = some r0) : CtI l yX8_codes wsX8_codes { frames := 0, cells := 0, slots := 0, locals := 0 } D (TY cI cZ cB cS) kK kV [.ref qt] [(qt, .inr (8, [.ref qt_w, .ref qt_isKept, .ref qt_value, .ref qt_weight, .ref qt_newTube, .ref qt_newPrice, .ref qt_newLow, .ref qt_newHigh, .ref qt_newGoods, .ref qt_rhythm, .ref qt_rhythmLong, .ref qt_slug, .int it_kinds, .int it_columns, .int it_slugs, .int it_newKinds, .int it_newColumns, .int it_newSlugs, .int it_rhythmTold, .ref qt_text, .int it_textSize, .int it_at, .int it_first, .int it_length, .int it_faultOf, .int it_fault, .ref qt_of, .ref qt_buyerColumn, .ref qt_buyerKind, .ref qt_buyerCoins, .int it_buyerMany, .ref qt_tryRow, .ref qt_tryLong, .ref qt_tryFree, .int it_tryMany]))] [(qt, .inr (8, [.ref qt_w, .ref qt_isKept, .ref qt_value, .ref qt_weight, .ref qt_newTube, .ref qt_newPrice, .ref qt_newLow, .ref qt_newHigh, .ref qt_newGoods, .ref qt_rhythm, .ref qt_rhythmLong, .ref qt_slug, .int it_kinds, .int it_columns, .int it_slugs, .int it_newKinds, .int it_newColumns, .int it_newSlugs, .int it_rhythmTold, .ref qt_text, .int it_textSize, .int it_at, .int it_first, .int it_length, .int it_faultOf, .int it_fault, .ref qt_of, .ref qt_buyerColumn, .ref qt_buyerKind, .ref qt_buyerCoins, .int it_buyerMany, .ref qt_tryRow, .ref qt_tryLong, .ref qt_tryFree, .int it_tryMany]))] sz r0 := by
  refine mkI (cc := cX8_codes) (maxL := 3) (rt := .int) (own := RX8) (by decide) rfl rfl (Nat.le_of_ble_eq_true rfl) ?_
  intro p e s m args below meth c A Z ls hx hb hml hown hts hK hN hX hP hD hA hS hret hl
  have hl : lv_has ls 3 [(0, .ref qt)] := hl
  have fl164 : (Cond.fieldLink RX8 164 "SoupWallModel" "kinds" "I").before args s = true := hts _ (List.mem_of_getElem? (l := wsX8_codes) (i := 1) rfl)
  have hiX8 : ∀ w ∈ wsX80, w ∈ wsX8_codes := fun w h => List.mem_cons_of_mem _ (List.mem_append_right _ h)
  have lp4 : ∀ (k : Nat) (x1 : Int32) (x2 : Int32)  (H : Heap) (locs : List Loc) (ls : Array Slot) (o : Int32), fX8_codes_L4 N k x1 x2 it_kinds = some o → va_P D vwCl [(qt, .inr (8, [.ref qt_w, .ref qt_isKept, .ref qt_value, .ref qt_weight, .ref qt_newTube, .ref qt_newPrice, .ref qt_newLow, .ref qt_newHigh, .ref qt_newGoods, .ref qt_rhythm, .ref qt_rhythmLong, .ref qt_slug, .int it_kinds, .int it_columns, .int it_slugs, .int it_newKinds, .int it_newColumns, .int it_newSlugs, .int it_rhythmTold, .ref qt_text, .int it_textSize, .int it_at, .int it_first, .int it_length, .int it_faultOf, .int it_fault, .ref qt_of, .ref qt_buyerColumn, .ref qt_buyerKind, .ref qt_buyerCoins, .int it_buyerMany, .ref qt_tryRow, .ref qt_tryLong, .ref qt_tryFree, .int it_tryMany]))] H → va_S A s.heap H locs → lv_has ls 3 [(0, .ref qt), (1, .int x1), (2, .int x2)] → (∀ (e1 : Int32), e1 = o → ∀ (H : Heap) (locs : List Loc) (ls : Array Slot), va_P D vwCl [(qt, .inr (8, [.ref qt_w, .ref qt_isKept, .ref qt_value, .ref qt_weight, .ref qt_newTube, .ref qt_newPrice, .ref qt_newLow, .ref qt_newHigh, .ref qt_newGoods, .ref qt_rhythm, .ref qt_rhythmLong, .ref qt_slug, .int it_kinds, .int it_columns, .int it_slugs, .int it_newKinds, .int it_newColumns, .int it_newSlugs, .int it_rhythmTold, .ref qt_text, .int it_textSize, .int it_at, .int it_first, .int it_length, .int it_faultOf, .int it_fault, .ref qt_of, .ref qt_buyerColumn, .ref qt_buyerKind, .ref qt_buyerCoins, .int it_buyerMany, .ref qt_tryRow, .ref qt_tryLong, .ref qt_tryFree, .int it_tryMany]))] H → va_S A s.heap H locs → lv_has ls 3 [(1, .int e1)] → W p l e ({ frames := 0, cells := 0, slots := 0, locals := 0 } : Room) s m args below meth c H locs 0 0 Z (F0 m 23 ls [])) → W p l e ({ frames := 0, cells := 0, slots := 0, locals := 0 } : Room) s m args below meth c H locs 0 0 Z (F0 m 4 ls []) := by
    intro k
    induction k with
    | zero =>
      intro x1 x2 H locs ls o h
      exact nomatch (show (none : Option (Int32)) = some o from h)
    | succ k ih =>
      intro x1 x2 H locs ls o h hP hS hl K
      rw [fX8_codes_L4_s] at h
      refine lv_iload_n hx hb dX8_codes_4 rfl (lv_at hl 2 rfl) ?_
      refine lv_aload_n hx hb dX8_codes_5 rfl (lv_at hl 0 rfl) ?_
      refine va_get (ci := 8) (v := .int it_kinds) (C := RX8) (T := TX8) (N := 35) hx hb hts hiX8 hown hK hP 0 rfl rfl 12 (by decide) fl164 (fun _ h9 => h9) rfl dX8_codes_6 ?_
      refine lv_icmp_ge (tgt := 23) hx hb dX8_codes_9 (by decide) (fun c1 => ?_) (fun c1 => ?_)
      · replace h := if_t c1 h
        exact K x1 (Option.some.inj h) _ _ _ hP hS (lv_sub hl [1] rfl)
      · replace h := if_f c1 h
        refine lv_iload_n hx hb dX8_codes_12 rfl (lv_at hl 1 rfl) ?_
        refine lv_bipush (v := 9) hx hb dX8_codes_13 (by decide) ?_
        refine lv_imul hx hb dX8_codes_15 ?_
        refine lv_topi (fun n2 en2 => ?_)
        replace h := lt_at en2 h
        refine lv_istore_n (lv' := [(1, .int n2), (0, .ref qt), (2, .int x2)]) hx hb dX8_codes_16 rfl hl (by decide) rfl (fun ls hl => ?_)
        obtain ⟨n3, en3⟩ : ∃ z : Int32, z = x2 + 1 := ⟨_, rfl⟩
        replace h := lt_at en3 h
        refine lv_iinc (v := n3) (lv' := [(2, .int n3), (1, .int n2), (0, .ref qt)]) hx hb dX8_codes_17 hl (k := 2) rfl (by rw [en3]; rfl) (by decide) rfl (fun ls hl => ?_)
        refine lv_goto (tgt := 4) hx hb dX8_codes_20 (by decide) ?_
        exact ih n2 n3 _ _ _ o h hP hS (lv_sub hl [2, 1, 0] rfl) K
  unfold fX8_codes at h
  refine lv_iconst (v := 1) hx hb dX8_codes_0 (by decide) ?_
  refine lv_istore_n (lv' := [(1, .int 1), (0, .ref qt)]) hx hb dX8_codes_1 rfl hl (by decide) rfl (fun ls hl => ?_)
  refine lv_iconst (v := 0) hx hb dX8_codes_2 (by decide) ?_
  refine lv_istore_n (lv' := [(2, .int 0), (1, .int 1), (0, .ref qt)]) hx hb dX8_codes_3 rfl hl (by decide) rfl (fun ls hl => ?_)
  replace h := bd_el h
  obtain ⟨o4, ho4, h⟩ := h
  refine lp4 N 1 0 _ _ _ o4 ho4 hP hS (lv_sub hl [2, 1, 0] rfl) (fun n5 eo H locs ls hP hS hl => ?_)
  subst eo
  refine lv_iload_n hx hb dX8_codes_23 rfl (lv_at hl 0 rfl) ?_
  simp only [Option.some.injEq] at h
  subst h
  exact hret _ _ _ _ hP hS rfl dX8_codes_24
theorem hdX8_codes : yX8_codes.cls = RX8 ∧ yX8_codes.cls ≠ "java/lang/invoke/MethodHandle" ∧ yX8_codes.cls ≠ "java/lang/invoke/VarHandle" ∧ (parseMethodDescriptor yX8_codes.desc).map (fun d => d.parameters.length) = some 0 := by decide +kernel

noncomputable def fX8_gets_L11 (N : Nat) : Nat → Int32 → Int32 → Int32 → Int32 → (Nat → Int32) → (Nat → Int32) → (Nat → Int32) → (Nat → Int32) → Option ((Int32 × (Nat → Int32)) ⊕ (Int32 × (Nat → Int32)))
  | 0, _, _, _, _, _, _, _, _ => none
  | k + 1, x1, x2, x3, it_kinds, ft_of, ft_value, ft_w, ft_weight => (if it_kinds ≤ x3 then some (.inl (x2, ft_w)) else ck x3 5 ((if (ft_of (Int32.toNatClampNeg x3)) ≤ 0 then ck x3 10 (lt (x2 + ((ft_of (Int32.toNatClampNeg x3)) * (ft_value (Int32.toNatClampNeg x3)))) fun n5 => bd (fX8_putIn N ft_w 60 x3 (ft_of (Int32.toNatClampNeg x3))) fun g6 => lt (x3 + 1) fun n8 => fX8_gets_L11 N k x1 n5 n8 it_kinds ft_of ft_value g6 ft_weight) else bd (fX8_weightIn N ft_weight ft_w 0 x3) fun r9 => bd (fX8_passes N ft_w 0 x1 r9) fun r11 => (if r11 = 0 then some (.inr (0, ft_w)) else ck x3 10 (lt (x2 + ((ft_of (Int32.toNatClampNeg x3)) * (ft_value (Int32.toNatClampNeg x3)))) fun n15 => bd (fX8_putIn N ft_w 60 x3 (ft_of (Int32.toNatClampNeg x3))) fun g16 => lt (x3 + 1) fun n18 => fX8_gets_L11 N k x1 n15 n18 it_kinds ft_of ft_value g16 ft_weight)))))
theorem fX8_gets_L11_s (N : Nat) (k : Nat) (x1 : Int32) (x2 : Int32) (x3 : Int32) (it_kinds : Int32) (ft_of : Nat → Int32) (ft_value : Nat → Int32) (ft_w : Nat → Int32) (ft_weight : Nat → Int32) : fX8_gets_L11 N (k + 1) x1 x2 x3 it_kinds ft_of ft_value ft_w ft_weight = ((if it_kinds ≤ x3 then some (.inl (x2, ft_w)) else ck x3 5 ((if (ft_of (Int32.toNatClampNeg x3)) ≤ 0 then ck x3 10 (lt (x2 + ((ft_of (Int32.toNatClampNeg x3)) * (ft_value (Int32.toNatClampNeg x3)))) fun n5 => bd (fX8_putIn N ft_w 60 x3 (ft_of (Int32.toNatClampNeg x3))) fun g6 => lt (x3 + 1) fun n8 => fX8_gets_L11 N k x1 n5 n8 it_kinds ft_of ft_value g6 ft_weight) else bd (fX8_weightIn N ft_weight ft_w 0 x3) fun r9 => bd (fX8_passes N ft_w 0 x1 r9) fun r11 => (if r11 = 0 then some (.inr (0, ft_w)) else ck x3 10 (lt (x2 + ((ft_of (Int32.toNatClampNeg x3)) * (ft_value (Int32.toNatClampNeg x3)))) fun n15 => bd (fX8_putIn N ft_w 60 x3 (ft_of (Int32.toNatClampNeg x3))) fun g16 => lt (x3 + 1) fun n18 => fX8_gets_L11 N k x1 n15 n18 it_kinds ft_of ft_value g16 ft_weight)))))) := rfl
noncomputable def fX8_gets (N : Nat) (it_kinds : Int32) (ft_of : Nat → Int32) (ft_value : Nat → Int32) (ft_w : Nat → Int32) (ft_weight : Nat → Int32) (x1 : Int32) : Option (Int32 × (Nat → Int32)) := bd (fX8_copy N ft_w 0 60) fun g19 => bd (fX8_gets_L11 N N x1 0 0 it_kinds ft_of ft_value g19 ft_weight) fun o => match o with | .inr rr => some rr | .inl (n22, g23) => ck (25 + x1) 240 ((if n22 < (g23 (Int32.toNatClampNeg (25 + x1))) then some (0, g23) else bd (fX8_payBack N it_kinds ft_value g23 60 (n22 - (g23 (Int32.toNatClampNeg (25 + x1))))) fun (r26, g27) => (if r26 = 0 then some (1, g27) else some (0, g27))))
set_option maxHeartbeats 4000000 in
set_option maxRecDepth 100000 in
theorem ctX8_gets (l : Launch) (D : va_G) (cI cZ cB cS : ClassId) (kK kV : Nat → Nat) (sz : Nat) (qt qt_w qt_isKept qt_value qt_weight qt_newTube qt_newPrice qt_newLow qt_newHigh qt_newGoods qt_rhythm qt_rhythmLong qt_slug qt_text qt_of qt_buyerColumn qt_buyerKind qt_buyerCoins qt_tryRow qt_tryLong qt_tryFree : Nat) (it_kinds : Int32) (it_columns : Int32) (it_slugs : Int32) (it_newKinds : Int32) (it_newColumns : Int32) (it_newSlugs : Int32) (it_rhythmTold : Int32) (it_textSize : Int32) (it_at : Int32) (it_first : Int32) (it_length : Int32) (it_faultOf : Int32) (it_fault : Int32) (it_buyerMany : Int32) (it_tryMany : Int32) (ft_of : Nat → Int32) (ft_value : Nat → Int32) (ft_w : Nat → Int32) (ft_weight : Nat → Int32) (x1 : Int32) (N : Nat) (r0 : Int32) (w_ft_w : Nat → Int32) (h : fX8_gets N it_kinds ft_of ft_value ft_w ft_weight x1 = some (r0, w_ft_w)) : CtI l yX8_gets wsX8_gets { frames := 3, cells := 0, slots := 0, locals := 71 } D (TY cI cZ cB cS) kK kV [.ref qt, .int x1] [(qt, .inr (8, [.ref qt_w, .ref qt_isKept, .ref qt_value, .ref qt_weight, .ref qt_newTube, .ref qt_newPrice, .ref qt_newLow, .ref qt_newHigh, .ref qt_newGoods, .ref qt_rhythm, .ref qt_rhythmLong, .ref qt_slug, .int it_kinds, .int it_columns, .int it_slugs, .int it_newKinds, .int it_newColumns, .int it_newSlugs, .int it_rhythmTold, .ref qt_text, .int it_textSize, .int it_at, .int it_first, .int it_length, .int it_faultOf, .int it_fault, .ref qt_of, .ref qt_buyerColumn, .ref qt_buyerKind, .ref qt_buyerCoins, .int it_buyerMany, .ref qt_tryRow, .ref qt_tryLong, .ref qt_tryFree, .int it_tryMany])), (qt_of, .inl (cI, 5, .inl ft_of)), (qt_value, .inl (cI, 10, .inl ft_value)), (qt_w, .inl (cI, 240, .inl ft_w)), (qt_weight, .inl (cI, 10, .inl ft_weight))] [(qt, .inr (8, [.ref qt_w, .ref qt_isKept, .ref qt_value, .ref qt_weight, .ref qt_newTube, .ref qt_newPrice, .ref qt_newLow, .ref qt_newHigh, .ref qt_newGoods, .ref qt_rhythm, .ref qt_rhythmLong, .ref qt_slug, .int it_kinds, .int it_columns, .int it_slugs, .int it_newKinds, .int it_newColumns, .int it_newSlugs, .int it_rhythmTold, .ref qt_text, .int it_textSize, .int it_at, .int it_first, .int it_length, .int it_faultOf, .int it_fault, .ref qt_of, .ref qt_buyerColumn, .ref qt_buyerKind, .ref qt_buyerCoins, .int it_buyerMany, .ref qt_tryRow, .ref qt_tryLong, .ref qt_tryFree, .int it_tryMany])), (qt_of, .inl (cI, 5, .inl ft_of)), (qt_value, .inl (cI, 10, .inl ft_value)), (qt_w, .inl (cI, 240, .inl w_ft_w)), (qt_weight, .inl (cI, 10, .inl ft_weight))] sz r0 := by
  refine mkI (cc := cX8_gets) (maxL := 4) (rt := .boolean) (own := RX8) (by decide) rfl rfl (Nat.le_of_ble_eq_true rfl) ?_
  intro p e s m args below meth c A Z ls hx hb hml hown hts hK hN hX hP hD hA hS hret hl
  have hl : lv_has ls 4 [(0, .ref qt), (1, .int x1)] := hl
  have fl164 : (Cond.fieldLink RX8 164 "SoupWallModel" "kinds" "I").before args s = true := hts _ (List.mem_of_getElem? (l := wsX8_gets) (i := 1) rfl)
  have hiX8 : ∀ w ∈ wsX80, w ∈ wsX8_gets := fun w h => List.mem_cons_of_mem _ (List.mem_append_right _ h)
  have fl54 : (Cond.fieldLink RX8 54 "SoupWallModel" "of" "[I").before args s = true := hts _ (List.mem_of_getElem? (l := wsX8_gets) (i := 2) rfl)
  have fl17 : (Cond.fieldLink RX8 17 "SoupWallModel" "value" "[I").before args s = true := hts _ (List.mem_of_getElem? (l := wsX8_gets) (i := 3) rfl)
  have fl7 : (Cond.fieldLink RX8 7 "SoupWallModel" "w" "[I").before args s = true := hts _ (List.mem_of_getElem? (l := wsX8_gets) (i := 4) rfl)
  have lp11 : ∀ (k : Nat) (x1 : Int32) (x2 : Int32) (x3 : Int32) (ft_w : Nat → Int32) (H : Heap) (locs : List Loc) (ls : Array Slot) (o : (Int32 × (Nat → Int32)) ⊕ (Int32 × (Nat → Int32))), fX8_gets_L11 N k x1 x2 x3 it_kinds ft_of ft_value ft_w ft_weight = some o → va_P D vwCl [(qt, .inr (8, [.ref qt_w, .ref qt_isKept, .ref qt_value, .ref qt_weight, .ref qt_newTube, .ref qt_newPrice, .ref qt_newLow, .ref qt_newHigh, .ref qt_newGoods, .ref qt_rhythm, .ref qt_rhythmLong, .ref qt_slug, .int it_kinds, .int it_columns, .int it_slugs, .int it_newKinds, .int it_newColumns, .int it_newSlugs, .int it_rhythmTold, .ref qt_text, .int it_textSize, .int it_at, .int it_first, .int it_length, .int it_faultOf, .int it_fault, .ref qt_of, .ref qt_buyerColumn, .ref qt_buyerKind, .ref qt_buyerCoins, .int it_buyerMany, .ref qt_tryRow, .ref qt_tryLong, .ref qt_tryFree, .int it_tryMany])), (qt_of, .inl (cI, 5, .inl ft_of)), (qt_value, .inl (cI, 10, .inl ft_value)), (qt_w, .inl (cI, 240, .inl ft_w)), (qt_weight, .inl (cI, 10, .inl ft_weight))] H → va_S A s.heap H locs → lv_has ls 4 [(0, .ref qt), (1, .int x1), (2, .int x2), (3, .int x3)] → (∀ rr, .inr rr = o → rr = (r0, w_ft_w)) → (∀ (e2 : Int32) (e_ft_w : Nat → Int32), .inl (e2, e_ft_w) = o → ∀ (H : Heap) (locs : List Loc) (ls : Array Slot), va_P D vwCl [(qt, .inr (8, [.ref qt_w, .ref qt_isKept, .ref qt_value, .ref qt_weight, .ref qt_newTube, .ref qt_newPrice, .ref qt_newLow, .ref qt_newHigh, .ref qt_newGoods, .ref qt_rhythm, .ref qt_rhythmLong, .ref qt_slug, .int it_kinds, .int it_columns, .int it_slugs, .int it_newKinds, .int it_newColumns, .int it_newSlugs, .int it_rhythmTold, .ref qt_text, .int it_textSize, .int it_at, .int it_first, .int it_length, .int it_faultOf, .int it_fault, .ref qt_of, .ref qt_buyerColumn, .ref qt_buyerKind, .ref qt_buyerCoins, .int it_buyerMany, .ref qt_tryRow, .ref qt_tryLong, .ref qt_tryFree, .int it_tryMany])), (qt_of, .inl (cI, 5, .inl ft_of)), (qt_value, .inl (cI, 10, .inl ft_value)), (qt_w, .inl (cI, 240, .inl e_ft_w)), (qt_weight, .inl (cI, 10, .inl ft_weight))] H → va_S A s.heap H locs → lv_has ls 4 [(0, .ref qt), (1, .int x1), (2, .int e2)] → W p l e ({ frames := 3, cells := 0, slots := 0, locals := 71 } : Room) s m args below meth c H locs 0 0 Z (F0 m 80 ls [])) → W p l e ({ frames := 3, cells := 0, slots := 0, locals := 71 } : Room) s m args below meth c H locs 0 0 Z (F0 m 11 ls []) := by
    intro k
    induction k with
    | zero =>
      intro x1 x2 x3 ft_w H locs ls o h
      exact nomatch (show (none : Option ((Int32 × (Nat → Int32)) ⊕ (Int32 × (Nat → Int32)))) = some o from h)
    | succ k ih =>
      intro x1 x2 x3 ft_w H locs ls o h hP hS hl KR K
      rw [fX8_gets_L11_s] at h
      refine lv_iload_n hx hb dX8_gets_11 rfl (lv_at hl 3 rfl) ?_
      refine lv_aload_n hx hb dX8_gets_12 rfl (lv_at hl 0 rfl) ?_
      refine va_get (ci := 8) (v := .int it_kinds) (C := RX8) (T := TX8) (N := 35) hx hb hts hiX8 hown hK hP 0 rfl rfl 12 (by decide) fl164 (fun _ h9 => h9) rfl dX8_gets_13 ?_
      refine lv_icmp_ge (tgt := 80) hx hb dX8_gets_16 (by decide) (fun c1 => ?_) (fun c1 => ?_)
      · replace h := if_t c1 h
        exact K x2 ft_w (Option.some.inj h) _ _ _ hP hS (lv_sub hl [0, 1, 2] rfl)
      · replace h := if_f c1 h
        refine lv_aload_n hx hb dX8_gets_19 rfl (lv_at hl 0 rfl) ?_
        refine va_get (ci := 8) (v := .ref qt_of) (C := RX8) (T := TX8) (N := 35) hx hb hts hiX8 hown hK hP 0 rfl rfl 26 (by decide) fl54 (fun _ h9 => h9) rfl dX8_gets_20 ?_
        refine lv_iload_n hx hb dX8_gets_23 rfl (lv_at hl 3 rfl) ?_
        replace h := ck_el h
        obtain ⟨hi2, h⟩ := h
        refine va_iald hx hb hK hP 1 0 rfl rfl hi2 dX8_gets_24 ?_
        refine lv_if_le (tgt := 45) hx hb dX8_gets_25 (by decide) (fun c3 => ?_) (fun c3 => ?_)
        · replace h := if_t c3 h
          refine lv_iload_n hx hb dX8_gets_45 rfl (lv_at hl 2 rfl) ?_
          refine lv_aload_n hx hb dX8_gets_46 rfl (lv_at hl 0 rfl) ?_
          refine va_get (ci := 8) (v := .ref qt_of) (C := RX8) (T := TX8) (N := 35) hx hb hts hiX8 hown hK hP 0 rfl rfl 26 (by decide) fl54 (fun _ h9 => h9) rfl dX8_gets_47 ?_
          refine lv_iload_n hx hb dX8_gets_50 rfl (lv_at hl 3 rfl) ?_
          refine va_iald hx hb hK hP 1 0 rfl rfl hi2 dX8_gets_51 ?_
          refine lv_aload_n hx hb dX8_gets_52 rfl (lv_at hl 0 rfl) ?_
          refine va_get (ci := 8) (v := .ref qt_value) (C := RX8) (T := TX8) (N := 35) hx hb hts hiX8 hown hK hP 0 rfl rfl 2 (by decide) fl17 (fun _ h9 => h9) rfl dX8_gets_53 ?_
          refine lv_iload_n hx hb dX8_gets_56 rfl (lv_at hl 3 rfl) ?_
          replace h := ck_el h
          obtain ⟨hi4, h⟩ := h
          refine va_iald hx hb hK hP 2 0 rfl rfl hi4 dX8_gets_57 ?_
          refine lv_imul hx hb dX8_gets_58 ?_
          refine lv_iadd hx hb dX8_gets_59 ?_
          refine lv_topi (fun n5 en5 => ?_)
          replace h := lt_at en5 h
          refine lv_istore_n (lv' := [(2, .int n5), (0, .ref qt), (1, .int x1), (3, .int x3)]) hx hb dX8_gets_60 rfl hl (by decide) rfl (fun ls hl => ?_)
          refine lv_aload_n hx hb dX8_gets_61 rfl (lv_at hl 1 rfl) ?_
          refine lv_bipush (v := 60) hx hb dX8_gets_62 (by decide) ?_
          refine lv_iload_n hx hb dX8_gets_64 rfl (lv_at hl 3 rfl) ?_
          refine lv_aload_n hx hb dX8_gets_65 rfl (lv_at hl 1 rfl) ?_
          refine va_get (ci := 8) (v := .ref qt_of) (C := RX8) (T := TX8) (N := 35) hx hb hts hiX8 hown hK hP 0 rfl rfl 26 (by decide) fl54 (fun _ h9 => h9) rfl dX8_gets_66 ?_
          refine lv_iload_n hx hb dX8_gets_69 rfl (lv_at hl 3 rfl) ?_
          refine va_iald hx hb hK hP 1 0 rfl rfl hi2 dX8_gets_70 ?_
          replace h := bd_el h
          obtain ⟨g6, hc7, h⟩ := h
          refine callVV (rest := []) ⟨hx, hb, hml, hown, hts⟩ (ctX8_putIn l D cI cZ cB cS kK kV _ qt qt_w qt_isKept qt_value qt_weight qt_newTube qt_newPrice qt_newLow qt_newHigh qt_newGoods qt_rhythm qt_rhythmLong qt_slug qt_text qt_of qt_buyerColumn qt_buyerKind qt_buyerCoins qt_tryRow qt_tryLong qt_tryFree it_kinds it_columns it_slugs it_newKinds it_newColumns it_newSlugs it_rhythmTold it_textSize it_at it_first it_length it_faultOf it_fault it_buyerMany it_tryMany ft_w 60 x3 (ft_of (Int32.toNatClampNeg x3)) N g6 hc7) (cwV 3 hts gX8_gets_X8_putIn rfl rfl rfl hdX8_putIn ⟨Nat.le_of_ble_eq_true rfl, Nat.le_of_ble_eq_true rfl⟩) hK hN hX hP (dF hD rfl) hS hA [0, 3] (mcC rfl (mcC rfl mcN)) (by decide +kernel) [(qt, .inr (8, [.ref qt_w, .ref qt_isKept, .ref qt_value, .ref qt_weight, .ref qt_newTube, .ref qt_newPrice, .ref qt_newLow, .ref qt_newHigh, .ref qt_newGoods, .ref qt_rhythm, .ref qt_rhythmLong, .ref qt_slug, .int it_kinds, .int it_columns, .int it_slugs, .int it_newKinds, .int it_newColumns, .int it_newSlugs, .int it_rhythmTold, .ref qt_text, .int it_textSize, .int it_at, .int it_first, .int it_length, .int it_faultOf, .int it_fault, .ref qt_of, .ref qt_buyerColumn, .ref qt_buyerKind, .ref qt_buyerCoins, .int it_buyerMany, .ref qt_tryRow, .ref qt_tryLong, .ref qt_tryFree, .int it_tryMany])), (qt_of, .inl (cI, 5, .inl ft_of)), (qt_value, .inl (cI, 10, .inl ft_value)), (qt_w, .inl (cI, 240, .inl g6)), (qt_weight, .inl (cI, 10, .inl ft_weight))] [1, 2, 4] (mcC rfl (mcC rfl mcN)) ((mcC rfl (mcC rfl (mcC rfl mcN))).trans (mcC rfl (mcC rfl (mcC rfl mcN))).symm) 5 rfl (by decide +kernel) (va_recv hK hP (ci := 8) (q0 := 0) rfl rfl) rfl hl.1 rfl (Nat.le_of_ble_eq_true rfl) ⟨Nat.zero_le _, Nat.zero_le _⟩ dX8_gets_71 (fun H locs hP hS => ?_)
          obtain ⟨n8, en8⟩ : ∃ z : Int32, z = x3 + 1 := ⟨_, rfl⟩
          replace h := lt_at en8 h
          refine lv_iinc (v := n8) (lv' := [(3, .int n8), (2, .int n5), (0, .ref qt), (1, .int x1)]) hx hb dX8_gets_74 hl (k := 3) rfl (by rw [en8]; rfl) (by decide) rfl (fun ls hl => ?_)
          refine lv_goto (tgt := 11) hx hb dX8_gets_77 (by decide) ?_
          exact ih x1 n5 n8 g6 _ _ _ o h hP hS (lv_sub hl [2, 3, 1, 0] rfl) KR K
        · replace h := if_f c3 h
          refine lv_aload_n hx hb dX8_gets_28 rfl (lv_at hl 0 rfl) ?_
          refine lv_iconst (v := 0) hx hb dX8_gets_29 (by decide) ?_
          refine lv_iload_n hx hb dX8_gets_30 rfl (lv_at hl 1 rfl) ?_
          refine lv_aload_n hx hb dX8_gets_31 rfl (lv_at hl 0 rfl) ?_
          refine lv_iconst (v := 0) hx hb dX8_gets_32 (by decide) ?_
          refine lv_iload_n hx hb dX8_gets_33 rfl (lv_at hl 3 rfl) ?_
          replace h := bd_el h
          obtain ⟨r9, hc10, h⟩ := h
          refine callVI (rest := [.int x1, .int 0, .ref qt]) ⟨hx, hb, hml, hown, hts⟩ (ctX8_weightIn l D cI cZ cB cS kK kV _ qt qt_w qt_isKept qt_value qt_weight qt_newTube qt_newPrice qt_newLow qt_newHigh qt_newGoods qt_rhythm qt_rhythmLong qt_slug qt_text qt_of qt_buyerColumn qt_buyerKind qt_buyerCoins qt_tryRow qt_tryLong qt_tryFree it_kinds it_columns it_slugs it_newKinds it_newColumns it_newSlugs it_rhythmTold it_textSize it_at it_first it_length it_faultOf it_fault it_buyerMany it_tryMany ft_weight ft_w 0 x3 N r9 hc10) (cwV 2 hts gX8_gets_X8_weightIn rfl rfl rfl hdX8_weightIn ⟨Nat.le_of_ble_eq_true rfl, Nat.le_of_ble_eq_true rfl⟩) hK hN hX hP (dF hD rfl) hS hA [0, 4, 3] (mcC rfl (mcC rfl (mcC rfl mcN))) (by decide +kernel) [(qt, .inr (8, [.ref qt_w, .ref qt_isKept, .ref qt_value, .ref qt_weight, .ref qt_newTube, .ref qt_newPrice, .ref qt_newLow, .ref qt_newHigh, .ref qt_newGoods, .ref qt_rhythm, .ref qt_rhythmLong, .ref qt_slug, .int it_kinds, .int it_columns, .int it_slugs, .int it_newKinds, .int it_newColumns, .int it_newSlugs, .int it_rhythmTold, .ref qt_text, .int it_textSize, .int it_at, .int it_first, .int it_length, .int it_faultOf, .int it_fault, .ref qt_of, .ref qt_buyerColumn, .ref qt_buyerKind, .ref qt_buyerCoins, .int it_buyerMany, .ref qt_tryRow, .ref qt_tryLong, .ref qt_tryFree, .int it_tryMany])), (qt_of, .inl (cI, 5, .inl ft_of)), (qt_value, .inl (cI, 10, .inl ft_value)), (qt_w, .inl (cI, 240, .inl ft_w)), (qt_weight, .inl (cI, 10, .inl ft_weight))] [1, 2] (mcC rfl (mcC rfl (mcC rfl mcN))) ((mcC rfl (mcC rfl mcN)).trans (mcC rfl (mcC rfl mcN)).symm) 5 rfl (by decide +kernel) (va_recv hK hP (ci := 8) (q0 := 0) rfl rfl) rfl hl.1 rfl (Nat.le_of_ble_eq_true rfl) ⟨Nat.zero_le _, Nat.zero_le _⟩ dX8_gets_34 (fun H locs hP hS => ?_)
          replace h := bd_el h
          obtain ⟨r11, hc12, h⟩ := h
          refine callVI (rest := []) ⟨hx, hb, hml, hown, hts⟩ (ctX8_passes l D cI cZ cB cS kK kV _ qt qt_w qt_isKept qt_value qt_weight qt_newTube qt_newPrice qt_newLow qt_newHigh qt_newGoods qt_rhythm qt_rhythmLong qt_slug qt_text qt_of qt_buyerColumn qt_buyerKind qt_buyerCoins qt_tryRow qt_tryLong qt_tryFree it_kinds it_columns it_slugs it_newKinds it_newColumns it_newSlugs it_rhythmTold it_textSize it_at it_first it_length it_faultOf it_fault it_buyerMany it_tryMany ft_w 0 x1 r9 N r11 hc12) (cwV 3 hts gX8_gets_X8_passes rfl rfl rfl hdX8_passes ⟨Nat.le_of_ble_eq_true rfl, Nat.le_of_ble_eq_true rfl⟩) hK hN hX hP (dF hD rfl) hS hA [0, 3] (mcC rfl (mcC rfl mcN)) (by decide +kernel) [(qt, .inr (8, [.ref qt_w, .ref qt_isKept, .ref qt_value, .ref qt_weight, .ref qt_newTube, .ref qt_newPrice, .ref qt_newLow, .ref qt_newHigh, .ref qt_newGoods, .ref qt_rhythm, .ref qt_rhythmLong, .ref qt_slug, .int it_kinds, .int it_columns, .int it_slugs, .int it_newKinds, .int it_newColumns, .int it_newSlugs, .int it_rhythmTold, .ref qt_text, .int it_textSize, .int it_at, .int it_first, .int it_length, .int it_faultOf, .int it_fault, .ref qt_of, .ref qt_buyerColumn, .ref qt_buyerKind, .ref qt_buyerCoins, .int it_buyerMany, .ref qt_tryRow, .ref qt_tryLong, .ref qt_tryFree, .int it_tryMany])), (qt_of, .inl (cI, 5, .inl ft_of)), (qt_value, .inl (cI, 10, .inl ft_value)), (qt_w, .inl (cI, 240, .inl ft_w)), (qt_weight, .inl (cI, 10, .inl ft_weight))] [1, 2, 4] (mcC rfl (mcC rfl mcN)) ((mcC rfl (mcC rfl (mcC rfl mcN))).trans (mcC rfl (mcC rfl (mcC rfl mcN))).symm) 5 rfl (by decide +kernel) (va_recv hK hP (ci := 8) (q0 := 0) rfl rfl) rfl hl.1 rfl (Nat.le_of_ble_eq_true rfl) ⟨Nat.zero_le _, Nat.zero_le _⟩ dX8_gets_37 (fun H locs hP hS => ?_)
          refine lv_if_ne (tgt := 45) hx hb dX8_gets_40 (by decide) (fun c13 => ?_) (fun c13 => ?_)
          · replace h := if_f c13 h
            refine lv_iload_n hx hb dX8_gets_45 rfl (lv_at hl 2 rfl) ?_
            refine lv_aload_n hx hb dX8_gets_46 rfl (lv_at hl 0 rfl) ?_
            refine va_get (ci := 8) (v := .ref qt_of) (C := RX8) (T := TX8) (N := 35) hx hb hts hiX8 hown hK hP 0 rfl rfl 26 (by decide) fl54 (fun _ h9 => h9) rfl dX8_gets_47 ?_
            refine lv_iload_n hx hb dX8_gets_50 rfl (lv_at hl 3 rfl) ?_
            refine va_iald hx hb hK hP 1 0 rfl rfl hi2 dX8_gets_51 ?_
            refine lv_aload_n hx hb dX8_gets_52 rfl (lv_at hl 0 rfl) ?_
            refine va_get (ci := 8) (v := .ref qt_value) (C := RX8) (T := TX8) (N := 35) hx hb hts hiX8 hown hK hP 0 rfl rfl 2 (by decide) fl17 (fun _ h9 => h9) rfl dX8_gets_53 ?_
            refine lv_iload_n hx hb dX8_gets_56 rfl (lv_at hl 3 rfl) ?_
            replace h := ck_el h
            obtain ⟨hi14, h⟩ := h
            refine va_iald hx hb hK hP 2 0 rfl rfl hi14 dX8_gets_57 ?_
            refine lv_imul hx hb dX8_gets_58 ?_
            refine lv_iadd hx hb dX8_gets_59 ?_
            refine lv_topi (fun n15 en15 => ?_)
            replace h := lt_at en15 h
            refine lv_istore_n (lv' := [(2, .int n15), (0, .ref qt), (1, .int x1), (3, .int x3)]) hx hb dX8_gets_60 rfl hl (by decide) rfl (fun ls hl => ?_)
            refine lv_aload_n hx hb dX8_gets_61 rfl (lv_at hl 1 rfl) ?_
            refine lv_bipush (v := 60) hx hb dX8_gets_62 (by decide) ?_
            refine lv_iload_n hx hb dX8_gets_64 rfl (lv_at hl 3 rfl) ?_
            refine lv_aload_n hx hb dX8_gets_65 rfl (lv_at hl 1 rfl) ?_
            refine va_get (ci := 8) (v := .ref qt_of) (C := RX8) (T := TX8) (N := 35) hx hb hts hiX8 hown hK hP 0 rfl rfl 26 (by decide) fl54 (fun _ h9 => h9) rfl dX8_gets_66 ?_
            refine lv_iload_n hx hb dX8_gets_69 rfl (lv_at hl 3 rfl) ?_
            refine va_iald hx hb hK hP 1 0 rfl rfl hi2 dX8_gets_70 ?_
            replace h := bd_el h
            obtain ⟨g16, hc17, h⟩ := h
            refine callVV (rest := []) ⟨hx, hb, hml, hown, hts⟩ (ctX8_putIn l D cI cZ cB cS kK kV _ qt qt_w qt_isKept qt_value qt_weight qt_newTube qt_newPrice qt_newLow qt_newHigh qt_newGoods qt_rhythm qt_rhythmLong qt_slug qt_text qt_of qt_buyerColumn qt_buyerKind qt_buyerCoins qt_tryRow qt_tryLong qt_tryFree it_kinds it_columns it_slugs it_newKinds it_newColumns it_newSlugs it_rhythmTold it_textSize it_at it_first it_length it_faultOf it_fault it_buyerMany it_tryMany ft_w 60 x3 (ft_of (Int32.toNatClampNeg x3)) N g16 hc17) (cwV 3 hts gX8_gets_X8_putIn rfl rfl rfl hdX8_putIn ⟨Nat.le_of_ble_eq_true rfl, Nat.le_of_ble_eq_true rfl⟩) hK hN hX hP (dF hD rfl) hS hA [0, 3] (mcC rfl (mcC rfl mcN)) (by decide +kernel) [(qt, .inr (8, [.ref qt_w, .ref qt_isKept, .ref qt_value, .ref qt_weight, .ref qt_newTube, .ref qt_newPrice, .ref qt_newLow, .ref qt_newHigh, .ref qt_newGoods, .ref qt_rhythm, .ref qt_rhythmLong, .ref qt_slug, .int it_kinds, .int it_columns, .int it_slugs, .int it_newKinds, .int it_newColumns, .int it_newSlugs, .int it_rhythmTold, .ref qt_text, .int it_textSize, .int it_at, .int it_first, .int it_length, .int it_faultOf, .int it_fault, .ref qt_of, .ref qt_buyerColumn, .ref qt_buyerKind, .ref qt_buyerCoins, .int it_buyerMany, .ref qt_tryRow, .ref qt_tryLong, .ref qt_tryFree, .int it_tryMany])), (qt_of, .inl (cI, 5, .inl ft_of)), (qt_value, .inl (cI, 10, .inl ft_value)), (qt_w, .inl (cI, 240, .inl g16)), (qt_weight, .inl (cI, 10, .inl ft_weight))] [1, 2, 4] (mcC rfl (mcC rfl mcN)) ((mcC rfl (mcC rfl (mcC rfl mcN))).trans (mcC rfl (mcC rfl (mcC rfl mcN))).symm) 5 rfl (by decide +kernel) (va_recv hK hP (ci := 8) (q0 := 0) rfl rfl) rfl hl.1 rfl (Nat.le_of_ble_eq_true rfl) ⟨Nat.zero_le _, Nat.zero_le _⟩ dX8_gets_71 (fun H locs hP hS => ?_)
            obtain ⟨n18, en18⟩ : ∃ z : Int32, z = x3 + 1 := ⟨_, rfl⟩
            replace h := lt_at en18 h
            refine lv_iinc (v := n18) (lv' := [(3, .int n18), (2, .int n15), (0, .ref qt), (1, .int x1)]) hx hb dX8_gets_74 hl (k := 3) rfl (by rw [en18]; rfl) (by decide) rfl (fun ls hl => ?_)
            refine lv_goto (tgt := 11) hx hb dX8_gets_77 (by decide) ?_
            exact ih x1 n15 n18 g16 _ _ _ o h hP hS (lv_sub hl [2, 3, 1, 0] rfl) KR K
          · replace h := if_t c13 h
            refine lv_iconst (v := 0) hx hb dX8_gets_43 (by decide) ?_
            have hz9 := KR _ (Option.some.inj h)
            simp only [Prod.mk.injEq] at hz9
            obtain ⟨rfl, rfl⟩ := hz9
            exact hret _ _ _ _ hP hS rfl dX8_gets_44
  unfold fX8_gets at h
  refine lv_aload_n hx hb dX8_gets_0 rfl (lv_at hl 0 rfl) ?_
  refine lv_iconst (v := 0) hx hb dX8_gets_1 (by decide) ?_
  refine lv_bipush (v := 60) hx hb dX8_gets_2 (by decide) ?_
  replace h := bd_el h
  obtain ⟨g19, hc20, h⟩ := h
  refine callVV (rest := []) ⟨hx, hb, hml, hown, hts⟩ (ctX8_copy l D cI cZ cB cS kK kV _ qt qt_w qt_isKept qt_value qt_weight qt_newTube qt_newPrice qt_newLow qt_newHigh qt_newGoods qt_rhythm qt_rhythmLong qt_slug qt_text qt_of qt_buyerColumn qt_buyerKind qt_buyerCoins qt_tryRow qt_tryLong qt_tryFree it_kinds it_columns it_slugs it_newKinds it_newColumns it_newSlugs it_rhythmTold it_textSize it_at it_first it_length it_faultOf it_fault it_buyerMany it_tryMany ft_w 0 60 N g19 hc20) (cwV 2 hts gX8_gets_X8_copy rfl rfl rfl hdX8_copy ⟨Nat.le_of_ble_eq_true rfl, Nat.le_of_ble_eq_true rfl⟩) hK hN hX hP (dF hD rfl) hS hA [0, 3] (mcC rfl (mcC rfl mcN)) (by decide +kernel) [(qt, .inr (8, [.ref qt_w, .ref qt_isKept, .ref qt_value, .ref qt_weight, .ref qt_newTube, .ref qt_newPrice, .ref qt_newLow, .ref qt_newHigh, .ref qt_newGoods, .ref qt_rhythm, .ref qt_rhythmLong, .ref qt_slug, .int it_kinds, .int it_columns, .int it_slugs, .int it_newKinds, .int it_newColumns, .int it_newSlugs, .int it_rhythmTold, .ref qt_text, .int it_textSize, .int it_at, .int it_first, .int it_length, .int it_faultOf, .int it_fault, .ref qt_of, .ref qt_buyerColumn, .ref qt_buyerKind, .ref qt_buyerCoins, .int it_buyerMany, .ref qt_tryRow, .ref qt_tryLong, .ref qt_tryFree, .int it_tryMany])), (qt_of, .inl (cI, 5, .inl ft_of)), (qt_value, .inl (cI, 10, .inl ft_value)), (qt_w, .inl (cI, 240, .inl g19)), (qt_weight, .inl (cI, 10, .inl ft_weight))] [1, 2, 4] (mcC rfl (mcC rfl mcN)) ((mcC rfl (mcC rfl (mcC rfl mcN))).trans (mcC rfl (mcC rfl (mcC rfl mcN))).symm) 5 rfl (by decide +kernel) (va_recv hK hP (ci := 8) (q0 := 0) rfl rfl) rfl hl.1 rfl (Nat.le_of_ble_eq_true rfl) ⟨Nat.zero_le _, Nat.zero_le _⟩ dX8_gets_4 (fun H locs hP hS => ?_)
  refine lv_iconst (v := 0) hx hb dX8_gets_7 (by decide) ?_
  refine lv_istore_n (lv' := [(2, .int 0), (0, .ref qt), (1, .int x1)]) hx hb dX8_gets_8 rfl hl (by decide) rfl (fun ls hl => ?_)
  refine lv_iconst (v := 0) hx hb dX8_gets_9 (by decide) ?_
  refine lv_istore_n (lv' := [(3, .int 0), (2, .int 0), (0, .ref qt), (1, .int x1)]) hx hb dX8_gets_10 rfl hl (by decide) rfl (fun ls hl => ?_)
  replace h := bd_el h
  obtain ⟨o21, ho21, h⟩ := h
  refine lp11 N x1 0 0 g19 _ _ _ o21 ho21 hP hS (lv_sub hl [2, 3, 1, 0] rfl) (fun rr er => by subst er; exact Option.some.inj h) (fun n22 g23 eo H locs ls hP hS hl => ?_)
  subst eo
  dsimp only at h
  refine lv_iload_n hx hb dX8_gets_80 rfl (lv_at hl 2 rfl) ?_
  refine lv_aload_n hx hb dX8_gets_81 rfl (lv_at hl 0 rfl) ?_
  refine va_get (ci := 8) (v := .ref qt_w) (C := RX8) (T := TX8) (N := 35) hx hb hts hiX8 hown hK hP 0 rfl rfl 0 (by decide) fl7 (fun _ h9 => h9) rfl dX8_gets_82 ?_
  refine lv_bipush (v := 25) hx hb dX8_gets_85 (by decide) ?_
  refine lv_iload_n hx hb dX8_gets_87 rfl (lv_at hl 1 rfl) ?_
  refine lv_iadd hx hb dX8_gets_88 ?_
  replace h := ck_el h
  obtain ⟨hi24, h⟩ := h
  refine va_iald hx hb hK hP 3 0 rfl rfl hi24 dX8_gets_89 ?_
  refine lv_icmp_lt (tgt := 117) hx hb dX8_gets_90 (by decide) (fun c25 => ?_) (fun c25 => ?_)
  · replace h := if_t c25 h
    refine lv_iconst (v := 0) hx hb dX8_gets_117 (by decide) ?_
    simp only [Option.some.injEq, Prod.mk.injEq] at h
    obtain ⟨rfl, rfl⟩ := h
    exact hret _ _ _ _ hP hS rfl dX8_gets_118
  · replace h := if_f c25 h
    refine lv_aload_n hx hb dX8_gets_93 rfl (lv_at hl 0 rfl) ?_
    refine lv_bipush (v := 60) hx hb dX8_gets_94 (by decide) ?_
    refine lv_iload_n hx hb dX8_gets_96 rfl (lv_at hl 2 rfl) ?_
    refine lv_aload_n hx hb dX8_gets_97 rfl (lv_at hl 0 rfl) ?_
    refine va_get (ci := 8) (v := .ref qt_w) (C := RX8) (T := TX8) (N := 35) hx hb hts hiX8 hown hK hP 0 rfl rfl 0 (by decide) fl7 (fun _ h9 => h9) rfl dX8_gets_98 ?_
    refine lv_bipush (v := 25) hx hb dX8_gets_101 (by decide) ?_
    refine lv_iload_n hx hb dX8_gets_103 rfl (lv_at hl 1 rfl) ?_
    refine lv_iadd hx hb dX8_gets_104 ?_
    refine va_iald hx hb hK hP 3 0 rfl rfl hi24 dX8_gets_105 ?_
    refine lv_isub hx hb dX8_gets_106 ?_
    replace h := bd_el h
    obtain ⟨⟨r26, g27⟩, hc28, h⟩ := h
    refine callVI (rest := []) ⟨hx, hb, hml, hown, hts⟩ (ctX8_payBack l D cI cZ cB cS kK kV _ qt qt_w qt_isKept qt_value qt_weight qt_newTube qt_newPrice qt_newLow qt_newHigh qt_newGoods qt_rhythm qt_rhythmLong qt_slug qt_text qt_of qt_buyerColumn qt_buyerKind qt_buyerCoins qt_tryRow qt_tryLong qt_tryFree it_kinds it_columns it_slugs it_newKinds it_newColumns it_newSlugs it_rhythmTold it_textSize it_at it_first it_length it_faultOf it_fault it_buyerMany it_tryMany ft_value g23 60 (n22 - (g23 (Int32.toNatClampNeg (25 + x1)))) N r26 g27 hc28) (cwV 2 hts gX8_gets_X8_payBack rfl rfl rfl hdX8_payBack ⟨Nat.le_of_ble_eq_true rfl, Nat.le_of_ble_eq_true rfl⟩) hK hN hX hP (dF hD rfl) hS hA [0, 2, 3] (mcC rfl (mcC rfl (mcC rfl mcN))) (by decide +kernel) [(qt, .inr (8, [.ref qt_w, .ref qt_isKept, .ref qt_value, .ref qt_weight, .ref qt_newTube, .ref qt_newPrice, .ref qt_newLow, .ref qt_newHigh, .ref qt_newGoods, .ref qt_rhythm, .ref qt_rhythmLong, .ref qt_slug, .int it_kinds, .int it_columns, .int it_slugs, .int it_newKinds, .int it_newColumns, .int it_newSlugs, .int it_rhythmTold, .ref qt_text, .int it_textSize, .int it_at, .int it_first, .int it_length, .int it_faultOf, .int it_fault, .ref qt_of, .ref qt_buyerColumn, .ref qt_buyerKind, .ref qt_buyerCoins, .int it_buyerMany, .ref qt_tryRow, .ref qt_tryLong, .ref qt_tryFree, .int it_tryMany])), (qt_of, .inl (cI, 5, .inl ft_of)), (qt_value, .inl (cI, 10, .inl ft_value)), (qt_w, .inl (cI, 240, .inl g27)), (qt_weight, .inl (cI, 10, .inl ft_weight))] [1, 4] (mcC rfl (mcC rfl (mcC rfl mcN))) ((mcC rfl (mcC rfl mcN)).trans (mcC rfl (mcC rfl mcN)).symm) 5 rfl (by decide +kernel) (va_recv hK hP (ci := 8) (q0 := 0) rfl rfl) rfl hl.1 rfl (Nat.le_of_ble_eq_true rfl) ⟨Nat.zero_le _, Nat.zero_le _⟩ dX8_gets_107 (fun H locs hP hS => ?_)
    refine lv_if_ne (tgt := 117) hx hb dX8_gets_110 (by decide) (fun c29 => ?_) (fun c29 => ?_)
    · replace h := if_f c29 h
      refine lv_iconst (v := 0) hx hb dX8_gets_117 (by decide) ?_
      simp only [Option.some.injEq, Prod.mk.injEq] at h
      obtain ⟨rfl, rfl⟩ := h
      exact hret _ _ _ _ hP hS rfl dX8_gets_118
    · replace h := if_t c29 h
      refine lv_iconst (v := 1) hx hb dX8_gets_113 (by decide) ?_
      refine lv_goto (tgt := 118) hx hb dX8_gets_114 (by decide) ?_
      simp only [Option.some.injEq, Prod.mk.injEq] at h
      obtain ⟨rfl, rfl⟩ := h
      exact hret _ _ _ _ hP hS rfl dX8_gets_118
theorem hdX8_gets : yX8_gets.cls = RX8 ∧ yX8_gets.cls ≠ "java/lang/invoke/MethodHandle" ∧ yX8_gets.cls ≠ "java/lang/invoke/VarHandle" ∧ (parseMethodDescriptor yX8_gets.desc).map (fun d => d.parameters.length) = some 1 := by decide +kernel
