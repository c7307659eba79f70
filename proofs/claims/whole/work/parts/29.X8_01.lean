noncomputable def fX8_takeColumn (N : Nat) (it_newColumns : Int32) (it_textSize : Int32) (it_at : Int32) (it_first : Int32) (it_faultOf : Int32) (it_fault : Int32) (ft_newPrice : Nat → Int32) (ft_text : Nat → Int32) (ft_newLow : Nat → Int32) (ft_newHigh : Nat → Int32) (ft_newGoods : Nat → Int32) (ft_rhythm : Nat → Int32) (ft_rhythmLong : Nat → Int32) : Option (Int32 × Int32 × Int32 × Int32 × Int32 × (Nat → Int32) × (Nat → Int32) × (Nat → Int32) × (Nat → Int32) × (Nat → Int32) × (Nat → Int32)) := lt (5 + it_newColumns) fun n1 => bd (fX8_takeNumber N it_textSize it_at it_first it_faultOf it_fault ft_text 1 99) fun (r2, g3, g4, g5, g6) => ck n1 10 (bd (fX8_takeNumber N it_textSize g3 g4 g5 g6 ft_text 1 99) fun (r9, g10, g11, g12, g13) => bd (fX8_takeNumber N it_textSize g10 g11 g12 g13 ft_text 1 99) fun (r15, g16, g17, g18, g19) => (if ((upd ft_newHigh (Int32.toNatClampNeg n1) r15) (Int32.toNatClampNeg n1)) < ((upd ft_newLow (Int32.toNatClampNeg n1) r9) (Int32.toNatClampNeg n1)) then bd (fX8_want N g18 g19 0 4 g17) fun (r22, g23, g24) => bd (fX8_takeNumber N it_textSize g16 g17 g23 g24 ft_text 0 60) fun (r26, g27, g28, g29, g30) => lt (it_newColumns + 1) fun n32 => some (n32, g27, g28, g29, g30, upd ft_newPrice (Int32.toNatClampNeg n1) r2, upd ft_newLow (Int32.toNatClampNeg n1) r9, upd ft_newHigh (Int32.toNatClampNeg n1) r15, upd ft_newGoods (Int32.toNatClampNeg n1) r26, upd ft_rhythm (Int32.toNatClampNeg n1) 0, upd ft_rhythmLong (Int32.toNatClampNeg n1) 1) else bd (fX8_want N g18 g19 1 4 g17) fun (r33, g34, g35) => bd (fX8_takeNumber N it_textSize g16 g17 g34 g35 ft_text 0 60) fun (r37, g38, g39, g40, g41) => lt (it_newColumns + 1) fun n43 => some (n43, g38, g39, g40, g41, upd ft_newPrice (Int32.toNatClampNeg n1) r2, upd ft_newLow (Int32.toNatClampNeg n1) r9, upd ft_newHigh (Int32.toNatClampNeg n1) r15, upd ft_newGoods (Int32.toNatClampNeg n1) r37, upd ft_rhythm (Int32.toNatClampNeg n1) 0, upd ft_rhythmLong (Int32.toNatClampNeg n1) 1)))
set_option maxHeartbeats 4000000 in
set_option maxRecDepth 100000 in
theorem ctX8_takeColumn (l : Launch) (D : va_G) (cI cZ cB cS : ClassId) (kK kV : Nat → Nat) (sz : Nat) (qt qt_w qt_isKept qt_value qt_weight qt_newTube qt_newPrice qt_newLow qt_newHigh qt_newGoods qt_rhythm qt_rhythmLong qt_slug qt_text qt_of qt_buyerColumn qt_buyerKind qt_buyerCoins qt_tryRow qt_tryLong qt_tryFree : Nat) (it_kinds : Int32) (it_columns : Int32) (it_slugs : Int32) (it_newKinds : Int32) (it_newColumns : Int32) (it_newSlugs : Int32) (it_rhythmTold : Int32) (it_textSize : Int32) (it_at : Int32) (it_first : Int32) (it_length : Int32) (it_faultOf : Int32) (it_fault : Int32) (it_buyerMany : Int32) (it_tryMany : Int32) (ft_newPrice : Nat → Int32) (ft_text : Nat → Int32) (ft_newLow : Nat → Int32) (ft_newHigh : Nat → Int32) (ft_newGoods : Nat → Int32) (ft_rhythm : Nat → Int32) (ft_rhythmLong : Nat → Int32)  (N : Nat) (w_it_newColumns : Int32) (w_it_at : Int32) (w_it_first : Int32) (w_it_faultOf : Int32) (w_it_fault : Int32) (w_ft_newPrice : Nat → Int32) (w_ft_newLow : Nat → Int32) (w_ft_newHigh : Nat → Int32) (w_ft_newGoods : Nat → Int32) (w_ft_rhythm : Nat → Int32) (w_ft_rhythmLong : Nat → Int32) (h : fX8_takeColumn N it_newColumns it_textSize it_at it_first it_faultOf it_fault ft_newPrice ft_text ft_newLow ft_newHigh ft_newGoods ft_rhythm ft_rhythmLong = some (w_it_newColumns, w_it_at, w_it_first, w_it_faultOf, w_it_fault, w_ft_newPrice, w_ft_newLow, w_ft_newHigh, w_ft_newGoods, w_ft_rhythm, w_ft_rhythmLong)) : CtV l yX8_takeColumn wsX8_takeColumn { frames := 2, cells := 0, slots := 0, locals := 50 } D (TY cI cZ cB cS) kK kV [.ref qt] [(qt, .inr (8, [.ref qt_w, .ref qt_isKept, .ref qt_value, .ref qt_weight, .ref qt_newTube, .ref qt_newPrice, .ref qt_newLow, .ref qt_newHigh, .ref qt_newGoods, .ref qt_rhythm, .ref qt_rhythmLong, .ref qt_slug, .int it_kinds, .int it_columns, .int it_slugs, .int it_newKinds, .int it_newColumns, .int it_newSlugs, .int it_rhythmTold, .ref qt_text, .int it_textSize, .int it_at, .int it_first, .int it_length, .int it_faultOf, .int it_fault, .ref qt_of, .ref qt_buyerColumn, .ref qt_buyerKind, .ref qt_buyerCoins, .int it_buyerMany, .ref qt_tryRow, .ref qt_tryLong, .ref qt_tryFree, .int it_tryMany])), (qt_newPrice, .inl (cI, 10, .inl ft_newPrice)), (qt_text, .inl (cI, 400, .inl ft_text)), (qt_newLow, .inl (cI, 10, .inl ft_newLow)), (qt_newHigh, .inl (cI, 10, .inl ft_newHigh)), (qt_newGoods, .inl (cI, 10, .inl ft_newGoods)), (qt_rhythm, .inl (cI, 10, .inl ft_rhythm)), (qt_rhythmLong, .inl (cI, 10, .inl ft_rhythmLong))] [(qt, .inr (8, [.ref qt_w, .ref qt_isKept, .ref qt_value, .ref qt_weight, .ref qt_newTube, .ref qt_newPrice, .ref qt_newLow, .ref qt_newHigh, .ref qt_newGoods, .ref qt_rhythm, .ref qt_rhythmLong, .ref qt_slug, .int it_kinds, .int it_columns, .int it_slugs, .int it_newKinds, .int w_it_newColumns, .int it_newSlugs, .int it_rhythmTold, .ref qt_text, .int it_textSize, .int w_it_at, .int w_it_first, .int it_length, .int w_it_faultOf, .int w_it_fault, .ref qt_of, .ref qt_buyerColumn, .ref qt_buyerKind, .ref qt_buyerCoins, .int it_buyerMany, .ref qt_tryRow, .ref qt_tryLong, .ref qt_tryFree, .int it_tryMany])), (qt_newPrice, .inl (cI, 10, .inl w_ft_newPrice)), (qt_text, .inl (cI, 400, .inl ft_text)), (qt_newLow, .inl (cI, 10, .inl w_ft_newLow)), (qt_newHigh, .inl (cI, 10, .inl w_ft_newHigh)), (qt_newGoods, .inl (cI, 10, .inl w_ft_newGoods)), (qt_rhythm, .inl (cI, 10, .inl w_ft_rhythm)), (qt_rhythmLong, .inl (cI, 10, .inl w_ft_rhythmLong))] sz := by
  refine mkV (cc := cX8_takeColumn) (maxL := 3) (own := RX8) (by decide) rfl rfl (Nat.le_of_ble_eq_true rfl) ?_
  intro p e s m args below meth c A Z ls hx hb hml hown hts hK hN hX hP hD hA hS hret hl
  have hl : lv_has ls 3 [(0, .ref qt)] := hl
  have fl124 : (Cond.fieldLink RX8 124 "SoupWallModel" "newColumns" "I").before args s = true := hts _ (List.mem_of_getElem? (l := wsX8_takeColumn) (i := 1) rfl)
  have hiX8 : ∀ w ∈ wsX80, w ∈ wsX8_takeColumn := fun w h => List.mem_cons_of_mem _ (List.mem_append_right _ h)
  have fl26 : (Cond.fieldLink RX8 26 "SoupWallModel" "newPrice" "[I").before args s = true := hts _ (List.mem_of_getElem? (l := wsX8_takeColumn) (i := 2) rfl)
  have fl29 : (Cond.fieldLink RX8 29 "SoupWallModel" "newLow" "[I").before args s = true := hts _ (List.mem_of_getElem? (l := wsX8_takeColumn) (i := 3) rfl)
  have fl32 : (Cond.fieldLink RX8 32 "SoupWallModel" "newHigh" "[I").before args s = true := hts _ (List.mem_of_getElem? (l := wsX8_takeColumn) (i := 4) rfl)
  have fl98 : (Cond.fieldLink RX8 98 "SoupWallModel" "first" "I").before args s = true := hts _ (List.mem_of_getElem? (l := wsX8_takeColumn) (i := 5) rfl)
  have fl35 : (Cond.fieldLink RX8 35 "SoupWallModel" "newGoods" "[I").before args s = true := hts _ (List.mem_of_getElem? (l := wsX8_takeColumn) (i := 6) rfl)
  have fl38 : (Cond.fieldLink RX8 38 "SoupWallModel" "rhythm" "[I").before args s = true := hts _ (List.mem_of_getElem? (l := wsX8_takeColumn) (i := 7) rfl)
  have fl41 : (Cond.fieldLink RX8 41 "SoupWallModel" "rhythmLong" "[I").before args s = true := hts _ (List.mem_of_getElem? (l := wsX8_takeColumn) (i := 8) rfl)
  unfold fX8_takeColumn at h
  refine lv_iconst (v := 5) hx hb dX8_takeColumn_0 (by decide) ?_
  refine lv_aload_n hx hb dX8_takeColumn_1 rfl (lv_at hl 0 rfl) ?_
  refine va_get (ci := 8) (v := .int it_newColumns) (C := RX8) (T := TX8) (N := 35) hx hb hts hiX8 hown hK hP 0 rfl rfl 16 (by decide) fl124 (fun _ h9 => h9) rfl dX8_takeColumn_2 ?_
  refine lv_iadd hx hb dX8_takeColumn_5 ?_
  refine lv_topi (fun n1 en1 => ?_)
  replace h := lt_at en1 h
  refine lv_istore_n (lv' := [(1, .int n1), (0, .ref qt)]) hx hb dX8_takeColumn_6 rfl hl (by decide) rfl (fun ls hl => ?_)
  refine lv_aload_n hx hb dX8_takeColumn_7 rfl (lv_at hl 1 rfl) ?_
  refine va_get (ci := 8) (v := .ref qt_newPrice) (C := RX8) (T := TX8) (N := 35) hx hb hts hiX8 hown hK hP 0 rfl rfl 5 (by decide) fl26 (fun _ h9 => h9) rfl dX8_takeColumn_8 ?_
  refine lv_iload_n hx hb dX8_takeColumn_11 rfl (lv_at hl 0 rfl) ?_
  refine lv_aload_n hx hb dX8_takeColumn_12 rfl (lv_at hl 1 rfl) ?_
  refine lv_iconst (v := 1) hx hb dX8_takeColumn_13 (by decide) ?_
  refine lv_bipush (v := 99) hx hb dX8_takeColumn_14 (by decide) ?_
  replace h := bd_el h
  obtain ⟨⟨r2, g3, g4, g5, g6⟩, hc7, h⟩ := h
  refine callVI (rest := [.int n1, .ref qt_newPrice]) ⟨hx, hb, hml, hown, hts⟩ (ctX8_takeNumber l D cI cZ cB cS kK kV _ qt qt_w qt_isKept qt_value qt_weight qt_newTube qt_newPrice qt_newLow qt_newHigh qt_newGoods qt_rhythm qt_rhythmLong qt_slug qt_text qt_of qt_buyerColumn qt_buyerKind qt_buyerCoins qt_tryRow qt_tryLong qt_tryFree it_kinds it_columns it_slugs it_newKinds it_newColumns it_newSlugs it_rhythmTold it_textSize it_at it_first it_length it_faultOf it_fault it_buyerMany it_tryMany ft_text 1 99 N r2 g3 g4 g5 g6 hc7) (cwV 2 hts gX8_takeColumn_X8_takeNumber rfl rfl rfl hdX8_takeNumber ⟨Nat.le_of_ble_eq_true rfl, Nat.le_of_ble_eq_true rfl⟩) hK hN hX hP (dF hD rfl) hS hA [0, 2] (mcC rfl (mcC rfl mcN)) (by decide +kernel) [(qt, .inr (8, [.ref qt_w, .ref qt_isKept, .ref qt_value, .ref qt_weight, .ref qt_newTube, .ref qt_newPrice, .ref qt_newLow, .ref qt_newHigh, .ref qt_newGoods, .ref qt_rhythm, .ref qt_rhythmLong, .ref qt_slug, .int it_kinds, .int it_columns, .int it_slugs, .int it_newKinds, .int it_newColumns, .int it_newSlugs, .int it_rhythmTold, .ref qt_text, .int it_textSize, .int g3, .int g4, .int it_length, .int g5, .int g6, .ref qt_of, .ref qt_buyerColumn, .ref qt_buyerKind, .ref qt_buyerCoins, .int it_buyerMany, .ref qt_tryRow, .ref qt_tryLong, .ref qt_tryFree, .int it_tryMany])), (qt_newPrice, .inl (cI, 10, .inl ft_newPrice)), (qt_text, .inl (cI, 400, .inl ft_text)), (qt_newLow, .inl (cI, 10, .inl ft_newLow)), (qt_newHigh, .inl (cI, 10, .inl ft_newHigh)), (qt_newGoods, .inl (cI, 10, .inl ft_newGoods)), (qt_rhythm, .inl (cI, 10, .inl ft_rhythm)), (qt_rhythmLong, .inl (cI, 10, .inl ft_rhythmLong))] [1, 3, 4, 5, 6, 7] (mcC rfl (mcC rfl mcN)) ((mcC rfl (mcC rfl (mcC rfl (mcC rfl (mcC rfl (mcC rfl mcN)))))).trans (mcC rfl (mcC rfl (mcC rfl (mcC rfl (mcC rfl (mcC rfl mcN)))))).symm) 8 rfl (by decide +kernel) (va_recv hK hP (ci := 8) (q0 := 0) rfl rfl) rfl hl.1 rfl (Nat.le_of_ble_eq_true rfl) ⟨Nat.zero_le _, Nat.zero_le _⟩ dX8_takeColumn_16 (fun H locs hP hS => ?_)
  replace h := ck_el h
  obtain ⟨hi8, h⟩ := h
  refine va_iast hx hb hK hP (dF hD rfl) hS 1 0 rfl rfl hi8 dX8_takeColumn_19 (fun H locs hP _ hS => ?_)
  replace hP : va_P D vwCl [(qt, .inr (8, [.ref qt_w, .ref qt_isKept, .ref qt_value, .ref qt_weight, .ref qt_newTube, .ref qt_newPrice, .ref qt_newLow, .ref qt_newHigh, .ref qt_newGoods, .ref qt_rhythm, .ref qt_rhythmLong, .ref qt_slug, .int it_kinds, .int it_columns, .int it_slugs, .int it_newKinds, .int it_newColumns, .int it_newSlugs, .int it_rhythmTold, .ref qt_text, .int it_textSize, .int g3, .int g4, .int it_length, .int g5, .int g6, .ref qt_of, .ref qt_buyerColumn, .ref qt_buyerKind, .ref qt_buyerCoins, .int it_buyerMany, .ref qt_tryRow, .ref qt_tryLong, .ref qt_tryFree, .int it_tryMany])), (qt_newPrice, .inl (cI, 10, .inl (upd ft_newPrice (Int32.toNatClampNeg n1) r2))), (qt_text, .inl (cI, 400, .inl ft_text)), (qt_newLow, .inl (cI, 10, .inl ft_newLow)), (qt_newHigh, .inl (cI, 10, .inl ft_newHigh)), (qt_newGoods, .inl (cI, 10, .inl ft_newGoods)), (qt_rhythm, .inl (cI, 10, .inl ft_rhythm)), (qt_rhythmLong, .inl (cI, 10, .inl ft_rhythmLong))] H := hP
  refine lv_aload_n hx hb dX8_takeColumn_20 rfl (lv_at hl 1 rfl) ?_
  refine va_get (ci := 8) (v := .ref qt_newLow) (C := RX8) (T := TX8) (N := 35) hx hb hts hiX8 hown hK hP 0 rfl rfl 6 (by decide) fl29 (fun _ h9 => h9) rfl dX8_takeColumn_21 ?_
  refine lv_iload_n hx hb dX8_takeColumn_24 rfl (lv_at hl 0 rfl) ?_
  refine lv_aload_n hx hb dX8_takeColumn_25 rfl (lv_at hl 1 rfl) ?_
  refine lv_iconst (v := 1) hx hb dX8_takeColumn_26 (by decide) ?_
  refine lv_bipush (v := 99) hx hb dX8_takeColumn_27 (by decide) ?_
  replace h := bd_el h
  obtain ⟨⟨r9, g10, g11, g12, g13⟩, hc14, h⟩ := h
  refine callVI (rest := [.int n1, .ref qt_newLow]) ⟨hx, hb, hml, hown, hts⟩ (ctX8_takeNumber l D cI cZ cB cS kK kV _ qt qt_w qt_isKept qt_value qt_weight qt_newTube qt_newPrice qt_newLow qt_newHigh qt_newGoods qt_rhythm qt_rhythmLong qt_slug qt_text qt_of qt_buyerColumn qt_buyerKind qt_buyerCoins qt_tryRow qt_tryLong qt_tryFree it_kinds it_columns it_slugs it_newKinds it_newColumns it_newSlugs it_rhythmTold it_textSize g3 g4 it_length g5 g6 it_buyerMany it_tryMany ft_text 1 99 N r9 g10 g11 g12 g13 hc14) (cwV 2 hts gX8_takeColumn_X8_takeNumber rfl rfl rfl hdX8_takeNumber ⟨Nat.le_of_ble_eq_true rfl, Nat.le_of_ble_eq_true rfl⟩) hK hN hX hP (dF hD rfl) hS hA [0, 2] (mcC rfl (mcC rfl mcN)) (by decide +kernel) [(qt, .inr (8, [.ref qt_w, .ref qt_isKept, .ref qt_value, .ref qt_weight, .ref qt_newTube, .ref qt_newPrice, .ref qt_newLow, .ref qt_newHigh, .ref qt_newGoods, .ref qt_rhythm, .ref qt_rhythmLong, .ref qt_slug, .int it_kinds, .int it_columns, .int it_slugs, .int it_newKinds, .int it_newColumns, .int it_newSlugs, .int it_rhythmTold, .ref qt_text, .int it_textSize, .int g10, .int g11, .int it_length, .int g12, .int g13, .ref qt_of, .ref qt_buyerColumn, .ref qt_buyerKind, .ref qt_buyerCoins, .int it_buyerMany, .ref qt_tryRow, .ref qt_tryLong, .ref qt_tryFree, .int it_tryMany])), (qt_newPrice, .inl (cI, 10, .inl (upd ft_newPrice (Int32.toNatClampNeg n1) r2))), (qt_text, .inl (cI, 400, .inl ft_text)), (qt_newLow, .inl (cI, 10, .inl ft_newLow)), (qt_newHigh, .inl (cI, 10, .inl ft_newHigh)), (qt_newGoods, .inl (cI, 10, .inl ft_newGoods)), (qt_rhythm, .inl (cI, 10, .inl ft_rhythm)), (qt_rhythmLong, .inl (cI, 10, .inl ft_rhythmLong))] [1, 3, 4, 5, 6, 7] (mcC rfl (mcC rfl mcN)) ((mcC rfl (mcC rfl (mcC rfl (mcC rfl (mcC rfl (mcC rfl mcN)))))).trans (mcC rfl (mcC rfl (mcC rfl (mcC rfl (mcC rfl (mcC rfl mcN)))))).symm) 8 rfl (by decide +kernel) (va_recv hK hP (ci := 8) (q0 := 0) rfl rfl) rfl hl.1 rfl (Nat.le_of_ble_eq_true rfl) ⟨Nat.zero_le _, Nat.zero_le _⟩ dX8_takeColumn_29 (fun H locs hP hS => ?_)
  refine va_iast hx hb hK hP (dF hD rfl) hS 3 0 rfl rfl hi8 dX8_takeColumn_32 (fun H locs hP _ hS => ?_)
  replace hP : va_P D vwCl [(qt, .inr (8, [.ref qt_w, .ref qt_isKept, .ref qt_value, .ref qt_weight, .ref qt_newTube, .ref qt_newPrice, .ref qt_newLow, .ref qt_newHigh, .ref qt_newGoods, .ref qt_rhythm, .ref qt_rhythmLong, .ref qt_slug, .int it_kinds, .int it_columns, .int it_slugs, .int it_newKinds, .int it_newColumns, .int it_newSlugs, .int it_rhythmTold, .ref qt_text, .int it_textSize, .int g10, .int g11, .int it_length, .int g12, .int g13, .ref qt_of, .ref qt_buyerColumn, .ref qt_buyerKind, .ref qt_buyerCoins, .int it_buyerMany, .ref qt_tryRow, .ref qt_tryLong, .ref qt_tryFree, .int it_tryMany])), (qt_newPrice, .inl (cI, 10, .inl (upd ft_newPrice (Int32.toNatClampNeg n1) r2))), (qt_text, .inl (cI, 400, .inl ft_text)), (qt_newLow, .inl (cI, 10, .inl (upd ft_newLow (Int32.toNatClampNeg n1) r9))), (qt_newHigh, .inl (cI, 10, .inl ft_newHigh)), (qt_newGoods, .inl (cI, 10, .inl ft_newGoods)), (qt_rhythm, .inl (cI, 10, .inl ft_rhythm)), (qt_rhythmLong, .inl (cI, 10, .inl ft_rhythmLong))] H := hP
  refine lv_aload_n hx hb dX8_takeColumn_33 rfl (lv_at hl 1 rfl) ?_
  refine va_get (ci := 8) (v := .ref qt_newHigh) (C := RX8) (T := TX8) (N := 35) hx hb hts hiX8 hown hK hP 0 rfl rfl 7 (by decide) fl32 (fun _ h9 => h9) rfl dX8_takeColumn_34 ?_
  refine lv_iload_n hx hb dX8_takeColumn_37 rfl (lv_at hl 0 rfl) ?_
  refine lv_aload_n hx hb dX8_takeColumn_38 rfl (lv_at hl 1 rfl) ?_
  refine lv_iconst (v := 1) hx hb dX8_takeColumn_39 (by decide) ?_
  refine lv_bipush (v := 99) hx hb dX8_takeColumn_40 (by decide) ?_
  replace h := bd_el h
  obtain ⟨⟨r15, g16, g17, g18, g19⟩, hc20, h⟩ := h
  refine callVI (rest := [.int n1, .ref qt_newHigh]) ⟨hx, hb, hml, hown, hts⟩ (ctX8_takeNumber l D cI cZ cB cS kK kV _ qt qt_w qt_isKept qt_value qt_weight qt_newTube qt_newPrice qt_newLow qt_newHigh qt_newGoods qt_rhythm qt_rhythmLong qt_slug qt_text qt_of qt_buyerColumn qt_buyerKind qt_buyerCoins qt_tryRow qt_tryLong qt_tryFree it_kinds it_columns it_slugs it_newKinds it_newColumns it_newSlugs it_rhythmTold it_textSize g10 g11 it_length g12 g13 it_buyerMany it_tryMany ft_text 1 99 N r15 g16 g17 g18 g19 hc20) (cwV 2 hts gX8_takeColumn_X8_takeNumber rfl rfl rfl hdX8_takeNumber ⟨Nat.le_of_ble_eq_true rfl, Nat.le_of_ble_eq_true rfl⟩) hK hN hX hP (dF hD rfl) hS hA [0, 2] (mcC rfl (mcC rfl mcN)) (by decide +kernel) [(qt, .inr (8, [.ref qt_w, .ref qt_isKept, .ref qt_value, .ref qt_weight, .ref qt_newTube, .ref qt_newPrice, .ref qt_newLow, .ref qt_newHigh, .ref qt_newGoods, .ref qt_rhythm, .ref qt_rhythmLong, .ref qt_slug, .int it_kinds, .int it_columns, .int it_slugs, .int it_newKinds, .int it_newColumns, .int it_newSlugs, .int it_rhythmTold, .ref qt_text, .int it_textSize, .int g16, .int g17, .int it_length, .int g18, .int g19, .ref qt_of, .ref qt_buyerColumn, .ref qt_buyerKind, .ref qt_buyerCoins, .int it_buyerMany, .ref qt_tryRow, .ref qt_tryLong, .ref qt_tryFree, .int it_tryMany])), (qt_newPrice, .inl (cI, 10, .inl (upd ft_newPrice (Int32.toNatClampNeg n1) r2))), (qt_text, .inl (cI, 400, .inl ft_text)), (qt_newLow, .inl (cI, 10, .inl (upd ft_newLow (Int32.toNatClampNeg n1) r9))), (qt_newHigh, .inl (cI, 10, .inl ft_newHigh)), (qt_newGoods, .inl (cI, 10, .inl ft_newGoods)), (qt_rhythm, .inl (cI, 10, .inl ft_rhythm)), (qt_rhythmLong, .inl (cI, 10, .inl ft_rhythmLong))] [1, 3, 4, 5, 6, 7] (mcC rfl (mcC rfl mcN)) ((mcC rfl (mcC rfl (mcC rfl (mcC rfl (mcC rfl (mcC rfl mcN)))))).trans (mcC rfl (mcC rfl (mcC rfl (mcC rfl (mcC rfl (mcC rfl mcN)))))).symm) 8 rfl (by decide +kernel) (va_recv hK hP (ci := 8) (q0 := 0) rfl rfl) rfl hl.1 rfl (Nat.le_of_ble_eq_true rfl) ⟨Nat.zero_le _, Nat.zero_le _⟩ dX8_takeColumn_42 (fun H locs hP hS => ?_)
  refine va_iast hx hb hK hP (dF hD rfl) hS 4 0 rfl rfl hi8 dX8_takeColumn_45 (fun H locs hP _ hS => ?_)
  replace hP : va_P D vwCl [(qt, .inr (8, [.ref qt_w, .ref qt_isKept, .ref qt_value, .ref qt_weight, .ref qt_newTube, .ref qt_newPrice, .ref qt_newLow, .ref qt_newHigh, .ref qt_newGoods, .ref qt_rhythm, .ref qt_rhythmLong, .ref qt_slug, .int it_kinds, .int it_columns, .int it_slugs, .int it_newKinds, .int it_newColumns, .int it_newSlugs, .int it_rhythmTold, .ref qt_text, .int it_textSize, .int g16, .int g17, .int it_length, .int g18, .int g19, .ref qt_of, .ref qt_buyerColumn, .ref qt_buyerKind, .ref qt_buyerCoins, .int it_buyerMany, .ref qt_tryRow, .ref qt_tryLong, .ref qt_tryFree, .int it_tryMany])), (qt_newPrice, .inl (cI, 10, .inl (upd ft_newPrice (Int32.toNatClampNeg n1) r2))), (qt_text, .inl (cI, 400, .inl ft_text)), (qt_newLow, .inl (cI, 10, .inl (upd ft_newLow (Int32.toNatClampNeg n1) r9))), (qt_newHigh, .inl (cI, 10, .inl (upd ft_newHigh (Int32.toNatClampNeg n1) r15))), (qt_newGoods, .inl (cI, 10, .inl ft_newGoods)), (qt_rhythm, .inl (cI, 10, .inl ft_rhythm)), (qt_rhythmLong, .inl (cI, 10, .inl ft_rhythmLong))] H := hP
  refine lv_aload_n hx hb dX8_takeColumn_46 rfl (lv_at hl 1 rfl) ?_
  refine lv_aload_n hx hb dX8_takeColumn_47 rfl (lv_at hl 1 rfl) ?_
  refine va_get (ci := 8) (v := .ref qt_newHigh) (C := RX8) (T := TX8) (N := 35) hx hb hts hiX8 hown hK hP 0 rfl rfl 7 (by decide) fl32 (fun _ h9 => h9) rfl dX8_takeColumn_48 ?_
  refine lv_iload_n hx hb dX8_takeColumn_51 rfl (lv_at hl 0 rfl) ?_
  refine va_iald hx hb hK hP 4 0 rfl rfl hi8 dX8_takeColumn_52 ?_
  refine lv_aload_n hx hb dX8_takeColumn_53 rfl (lv_at hl 1 rfl) ?_
  refine va_get (ci := 8) (v := .ref qt_newLow) (C := RX8) (T := TX8) (N := 35) hx hb hts hiX8 hown hK hP 0 rfl rfl 6 (by decide) fl29 (fun _ h9 => h9) rfl dX8_takeColumn_54 ?_
  refine lv_iload_n hx hb dX8_takeColumn_57 rfl (lv_at hl 0 rfl) ?_
  refine va_iald hx hb hK hP 3 0 rfl rfl hi8 dX8_takeColumn_58 ?_
  refine lv_icmp_lt (tgt := 66) hx hb dX8_takeColumn_59 (by decide) (fun c21 => ?_) (fun c21 => ?_)
  · replace h := if_t c21 h
    refine lv_iconst (v := 0) hx hb dX8_takeColumn_66 (by decide) ?_
    refine lv_iconst (v := 4) hx hb dX8_takeColumn_67 (by decide) ?_
    refine lv_aload_n hx hb dX8_takeColumn_68 rfl (lv_at hl 1 rfl) ?_
    refine va_get (ci := 8) (v := .int g17) (C := RX8) (T := TX8) (N := 35) hx hb hts hiX8 hown hK hP 0 rfl rfl 22 (by decide) fl98 (fun _ h9 => h9) rfl dX8_takeColumn_69 ?_
    replace h := bd_el h
    obtain ⟨⟨r22, g23, g24⟩, hc25, h⟩ := h
    refine callVI (rest := []) ⟨hx, hb, hml, hown, hts⟩ (ctX8_want l D cI cZ cB cS kK kV _ qt qt_w qt_isKept qt_value qt_weight qt_newTube qt_newPrice qt_newLow qt_newHigh qt_newGoods qt_rhythm qt_rhythmLong qt_slug qt_text qt_of qt_buyerColumn qt_buyerKind qt_buyerCoins qt_tryRow qt_tryLong qt_tryFree it_kinds it_columns it_slugs it_newKinds it_newColumns it_newSlugs it_rhythmTold it_textSize g16 g17 it_length g18 g19 it_buyerMany it_tryMany 0 4 g17 N r22 g23 g24 hc25) (cwV 3 hts gX8_takeColumn_X8_want rfl rfl rfl hdX8_want ⟨Nat.le_of_ble_eq_true rfl, Nat.le_of_ble_eq_true rfl⟩) hK hN hX hP (dF hD rfl) hS hA [0] (mcC rfl mcN) (by decide +kernel) [(qt, .inr (8, [.ref qt_w, .ref qt_isKept, .ref qt_value, .ref qt_weight, .ref qt_newTube, .ref qt_newPrice, .ref qt_newLow, .ref qt_newHigh, .ref qt_newGoods, .ref qt_rhythm, .ref qt_rhythmLong, .ref qt_slug, .int it_kinds, .int it_columns, .int it_slugs, .int it_newKinds, .int it_newColumns, .int it_newSlugs, .int it_rhythmTold, .ref qt_text, .int it_textSize, .int g16, .int g17, .int it_length, .int g23, .int g24, .ref qt_of, .ref qt_buyerColumn, .ref qt_buyerKind, .ref qt_buyerCoins, .int it_buyerMany, .ref qt_tryRow, .ref qt_tryLong, .ref qt_tryFree, .int it_tryMany])), (qt_newPrice, .inl (cI, 10, .inl (upd ft_newPrice (Int32.toNatClampNeg n1) r2))), (qt_text, .inl (cI, 400, .inl ft_text)), (qt_newLow, .inl (cI, 10, .inl (upd ft_newLow (Int32.toNatClampNeg n1) r9))), (qt_newHigh, .inl (cI, 10, .inl (upd ft_newHigh (Int32.toNatClampNeg n1) r15))), (qt_newGoods, .inl (cI, 10, .inl ft_newGoods)), (qt_rhythm, .inl (cI, 10, .inl ft_rhythm)), (qt_rhythmLong, .inl (cI, 10, .inl ft_rhythmLong))] [1, 2, 3, 4, 5, 6, 7] (mcC rfl mcN) ((mcC rfl (mcC rfl (mcC rfl (mcC rfl (mcC rfl (mcC rfl (mcC rfl mcN))))))).trans (mcC rfl (mcC rfl (mcC rfl (mcC rfl (mcC rfl (mcC rfl (mcC rfl mcN))))))).symm) 8 rfl (by decide +kernel) (va_recv hK hP (ci := 8) (q0 := 0) rfl rfl) rfl hl.1 rfl (Nat.le_of_ble_eq_true rfl) ⟨Nat.zero_le _, Nat.zero_le _⟩ dX8_takeColumn_72 (fun H locs hP hS => ?_)
    refine lv_istore_n (lv' := [(2, .int r22), (1, .int n1), (0, .ref qt)]) hx hb dX8_takeColumn_75 rfl hl (by decide) rfl (fun ls hl => ?_)
    refine lv_aload_n hx hb dX8_takeColumn_76 rfl (lv_at hl 2 rfl) ?_
    refine va_get (ci := 8) (v := .ref qt_newGoods) (C := RX8) (T := TX8) (N := 35) hx hb hts hiX8 hown hK hP 0 rfl rfl 8 (by decide) fl35 (fun _ h9 => h9) rfl dX8_takeColumn_77 ?_
    refine lv_iload_n hx hb dX8_takeColumn_80 rfl (lv_at hl 1 rfl) ?_
    refine lv_aload_n hx hb dX8_takeColumn_81 rfl (lv_at hl 2 rfl) ?_
    refine lv_iconst (v := 0) hx hb dX8_takeColumn_82 (by decide) ?_
    refine lv_bipush (v := 60) hx hb dX8_takeColumn_83 (by decide) ?_
    replace h := bd_el h
    obtain ⟨⟨r26, g27, g28, g29, g30⟩, hc31, h⟩ := h
    refine callVI (rest := [.int n1, .ref qt_newGoods]) ⟨hx, hb, hml, hown, hts⟩ (ctX8_takeNumber l D cI cZ cB cS kK kV _ qt qt_w qt_isKept qt_value qt_weight qt_newTube qt_newPrice qt_newLow qt_newHigh qt_newGoods qt_rhythm qt_rhythmLong qt_slug qt_text qt_of qt_buyerColumn qt_buyerKind qt_buyerCoins qt_tryRow qt_tryLong qt_tryFree it_kinds it_columns it_slugs it_newKinds it_newColumns it_newSlugs it_rhythmTold it_textSize g16 g17 it_length g23 g24 it_buyerMany it_tryMany ft_text 0 60 N r26 g27 g28 g29 g30 hc31) (cwV 2 hts gX8_takeColumn_X8_takeNumber rfl rfl rfl hdX8_takeNumber ⟨Nat.le_of_ble_eq_true rfl, Nat.le_of_ble_eq_true rfl⟩) hK hN hX hP (dF hD rfl) hS hA [0, 2] (mcC rfl (mcC rfl mcN)) (by decide +kernel) [(qt, .inr (8, [.ref qt_w, .ref qt_isKept, .ref qt_value, .ref qt_weight, .ref qt_newTube, .ref qt_newPrice, .ref qt_newLow, .ref qt_newHigh, .ref qt_newGoods, .ref qt_rhythm, .ref qt_rhythmLong, .ref qt_slug, .int it_kinds, .int it_columns, .int it_slugs, .int it_newKinds, .int it_newColumns, .int it_newSlugs, .int it_rhythmTold, .ref qt_text, .int it_textSize, .int g27, .int g28, .int it_length, .int g29, .int g30, .ref qt_of, .ref qt_buyerColumn, .ref qt_buyerKind, .ref qt_buyerCoins, .int it_buyerMany, .ref qt_tryRow, .ref qt_tryLong, .ref qt_tryFree, .int it_tryMany])), (qt_newPrice, .inl (cI, 10, .inl (upd ft_newPrice (Int32.toNatClampNeg n1) r2))), (qt_text, .inl (cI, 400, .inl ft_text)), (qt_newLow, .inl (cI, 10, .inl (upd ft_newLow (Int32.toNatClampNeg n1) r9))), (qt_newHigh, .inl (cI, 10, .inl (upd ft_newHigh (Int32.toNatClampNeg n1) r15))), (qt_newGoods, .inl (cI, 10, .inl ft_newGoods)), (qt_rhythm, .inl (cI, 10, .inl ft_rhythm)), (qt_rhythmLong, .inl (cI, 10, .inl ft_rhythmLong))] [1, 3, 4, 5, 6, 7] (mcC rfl (mcC rfl mcN)) ((mcC rfl (mcC rfl (mcC rfl (mcC rfl (mcC rfl (mcC rfl mcN)))))).trans (mcC rfl (mcC rfl (mcC rfl (mcC rfl (mcC rfl (mcC rfl mcN)))))).symm) 8 rfl (by decide +kernel) (va_recv hK hP (ci := 8) (q0 := 0) rfl rfl) rfl hl.1 rfl (Nat.le_of_ble_eq_true rfl) ⟨Nat.zero_le _, Nat.zero_le _⟩ dX8_takeColumn_85 (fun H locs hP hS => ?_)
    refine va_iast hx hb hK hP (dF hD rfl) hS 5 0 rfl rfl hi8 dX8_takeColumn_88 (fun H locs hP _ hS => ?_)
    replace hP : va_P D vwCl [(qt, .inr (8, [.ref qt_w, .ref qt_isKept, .ref qt_value, .ref qt_weight, .ref qt_newTube, .ref qt_newPrice, .ref qt_newLow, .ref qt_newHigh, .ref qt_newGoods, .ref qt_rhythm, .ref qt_rhythmLong, .ref qt_slug, .int it_kinds, .int it_columns, .int it_slugs, .int it_newKinds, .int it_newColumns, .int it_newSlugs, .int it_rhythmTold, .ref qt_text, .int it_textSize, .int g27, .int g28, .int it_length, .int g29, .int g30, .ref qt_of, .ref qt_buyerColumn, .ref qt_buyerKind, .ref qt_buyerCoins, .int it_buyerMany, .ref qt_tryRow, .ref qt_tryLong, .ref qt_tryFree, .int it_tryMany])), (qt_newPrice, .inl (cI, 10, .inl (upd ft_newPrice (Int32.toNatClampNeg n1) r2))), (qt_text, .inl (cI, 400, .inl ft_text)), (qt_newLow, .inl (cI, 10, .inl (upd ft_newLow (Int32.toNatClampNeg n1) r9))), (qt_newHigh, .inl (cI, 10, .inl (upd ft_newHigh (Int32.toNatClampNeg n1) r15))), (qt_newGoods, .inl (cI, 10, .inl (upd ft_newGoods (Int32.toNatClampNeg n1) r26))), (qt_rhythm, .inl (cI, 10, .inl ft_rhythm)), (qt_rhythmLong, .inl (cI, 10, .inl ft_rhythmLong))] H := hP
    refine lv_aload_n hx hb dX8_takeColumn_89 rfl (lv_at hl 2 rfl) ?_
    refine va_get (ci := 8) (v := .ref qt_rhythm) (C := RX8) (T := TX8) (N := 35) hx hb hts hiX8 hown hK hP 0 rfl rfl 9 (by decide) fl38 (fun _ h9 => h9) rfl dX8_takeColumn_90 ?_
    refine lv_iload_n hx hb dX8_takeColumn_93 rfl (lv_at hl 1 rfl) ?_
    refine lv_iconst (v := 0) hx hb dX8_takeColumn_94 (by decide) ?_
    refine va_iast hx hb hK hP (dF hD rfl) hS 6 0 rfl rfl hi8 dX8_takeColumn_95 (fun H locs hP _ hS => ?_)
    replace hP : va_P D vwCl [(qt, .inr (8, [.ref qt_w, .ref qt_isKept, .ref qt_value, .ref qt_weight, .ref qt_newTube, .ref qt_newPrice, .ref qt_newLow, .ref qt_newHigh, .ref qt_newGoods, .ref qt_rhythm, .ref qt_rhythmLong, .ref qt_slug, .int it_kinds, .int it_columns, .int it_slugs, .int it_newKinds, .int it_newColumns, .int it_newSlugs, .int it_rhythmTold, .ref qt_text, .int it_textSize, .int g27, .int g28, .int it_length, .int g29, .int g30, .ref qt_of, .ref qt_buyerColumn, .ref qt_buyerKind, .ref qt_buyerCoins, .int it_buyerMany, .ref qt_tryRow, .ref qt_tryLong, .ref qt_tryFree, .int it_tryMany])), (qt_newPrice, .inl (cI, 10, .inl (upd ft_newPrice (Int32.toNatClampNeg n1) r2))), (qt_text, .inl (cI, 400, .inl ft_text)), (qt_newLow, .inl (cI, 10, .inl (upd ft_newLow (Int32.toNatClampNeg n1) r9))), (qt_newHigh, .inl (cI, 10, .inl (upd ft_newHigh (Int32.toNatClampNeg n1) r15))), (qt_newGoods, .inl (cI, 10, .inl (upd ft_newGoods (Int32.toNatClampNeg n1) r26))), (qt_rhythm, .inl (cI, 10, .inl (upd ft_rhythm (Int32.toNatClampNeg n1) 0))), (qt_rhythmLong, .inl (cI, 10, .inl ft_rhythmLong))] H := hP
    refine lv_aload_n hx hb dX8_takeColumn_96 rfl (lv_at hl 2 rfl) ?_
    refine va_get (ci := 8) (v := .ref qt_rhythmLong) (C := RX8) (T := TX8) (N := 35) hx hb hts hiX8 hown hK hP 0 rfl rfl 10 (by decide) fl41 (fun _ h9 => h9) rfl dX8_takeColumn_97 ?_
    refine lv_iload_n hx hb dX8_takeColumn_100 rfl (lv_at hl 1 rfl) ?_
    refine lv_iconst (v := 1) hx hb dX8_takeColumn_101 (by decide) ?_
    refine va_iast hx hb hK hP (dF hD rfl) hS 7 0 rfl rfl hi8 dX8_takeColumn_102 (fun H locs hP _ hS => ?_)
    replace hP : va_P D vwCl [(qt, .inr (8, [.ref qt_w, .ref qt_isKept, .ref qt_value, .ref qt_weight, .ref qt_newTube, .ref qt_newPrice, .ref qt_newLow, .ref qt_newHigh, .ref qt_newGoods, .ref qt_rhythm, .ref qt_rhythmLong, .ref qt_slug, .int it_kinds, .int it_columns, .int it_slugs, .int it_newKinds, .int it_newColumns, .int it_newSlugs, .int it_rhythmTold, .ref qt_text, .int it_textSize, .int g27, .int g28, .int it_length, .int g29, .int g30, .ref qt_of, .ref qt_buyerColumn, .ref qt_buyerKind, .ref qt_buyerCoins, .int it_buyerMany, .ref qt_tryRow, .ref qt_tryLong, .ref qt_tryFree, .int it_tryMany])), (qt_newPrice, .inl (cI, 10, .inl (upd ft_newPrice (Int32.toNatClampNeg n1) r2))), (qt_text, .inl (cI, 400, .inl ft_text)), (qt_newLow, .inl (cI, 10, .inl (upd ft_newLow (Int32.toNatClampNeg n1) r9))), (qt_newHigh, .inl (cI, 10, .inl (upd ft_newHigh (Int32.toNatClampNeg n1) r15))), (qt_newGoods, .inl (cI, 10, .inl (upd ft_newGoods (Int32.toNatClampNeg n1) r26))), (qt_rhythm, .inl (cI, 10, .inl (upd ft_rhythm (Int32.toNatClampNeg n1) 0))), (qt_rhythmLong, .inl (cI, 10, .inl (upd ft_rhythmLong (Int32.toNatClampNeg n1) 1)))] H := hP
    refine lv_aload_n hx hb dX8_takeColumn_103 rfl (lv_at hl 2 rfl) ?_
    refine lv_dup hx hb dX8_takeColumn_104 rfl ?_
    refine va_get (ci := 8) (v := .int it_newColumns) (C := RX8) (T := TX8) (N := 35) hx hb hts hiX8 hown hK hP 0 rfl rfl 16 (by decide) fl124 (fun _ h9 => h9) rfl dX8_takeColumn_105 ?_
    refine lv_iconst (v := 1) hx hb dX8_takeColumn_108 (by decide) ?_
    refine lv_iadd hx hb dX8_takeColumn_109 ?_
    refine lv_topi (fun n32 en32 => ?_)
    replace h := lt_at en32 h
    refine va_put (ci := 8) (v := .int n32) (ty := .int) (C := RX8) (T := TX8) (N := 35) hx hb hts hiX8 tyX8 tyX8_ok nmX8 hown hK hP (dF hD rfl) hS 0 rfl rfl 16 (by decide) fl124 (fun _ h9 => h9) rfl (by decide +kernel) rfl rfl (Nat.le_of_ble_eq_true rfl) dX8_takeColumn_110 (fun H locs hP _ hS => ?_)
    replace hP : va_P D vwCl [(qt, .inr (8, [.ref qt_w, .ref qt_isKept, .ref qt_value, .ref qt_weight, .ref qt_newTube, .ref qt_newPrice, .ref qt_newLow, .ref qt_newHigh, .ref qt_newGoods, .ref qt_rhythm, .ref qt_rhythmLong, .ref qt_slug, .int it_kinds, .int it_columns, .int it_slugs, .int it_newKinds, .int n32, .int it_newSlugs, .int it_rhythmTold, .ref qt_text, .int it_textSize, .int g27, .int g28, .int it_length, .int g29, .int g30, .ref qt_of, .ref qt_buyerColumn, .ref qt_buyerKind, .ref qt_buyerCoins, .int it_buyerMany, .ref qt_tryRow, .ref qt_tryLong, .ref qt_tryFree, .int it_tryMany])), (qt_newPrice, .inl (cI, 10, .inl (upd ft_newPrice (Int32.toNatClampNeg n1) r2))), (qt_text, .inl (cI, 400, .inl ft_text)), (qt_newLow, .inl (cI, 10, .inl (upd ft_newLow (Int32.toNatClampNeg n1) r9))), (qt_newHigh, .inl (cI, 10, .inl (upd ft_newHigh (Int32.toNatClampNeg n1) r15))), (qt_newGoods, .inl (cI, 10, .inl (upd ft_newGoods (Int32.toNatClampNeg n1) r26))), (qt_rhythm, .inl (cI, 10, .inl (upd ft_rhythm (Int32.toNatClampNeg n1) 0))), (qt_rhythmLong, .inl (cI, 10, .inl (upd ft_rhythmLong (Int32.toNatClampNeg n1) 1)))] H := hP
    simp only [Option.some.injEq, Prod.mk.injEq] at h
    obtain ⟨rfl, rfl, rfl, rfl, rfl, rfl, rfl, rfl, rfl, rfl, rfl⟩ := h
    exact hret _ _ _ _ hP hS dX8_takeColumn_113
  · replace h := if_f c21 h
    refine lv_iconst (v := 1) hx hb dX8_takeColumn_62 (by decide) ?_
    refine lv_goto (tgt := 67) hx hb dX8_takeColumn_63 (by decide) ?_
    refine lv_iconst (v := 4) hx hb dX8_takeColumn_67 (by decide) ?_
    refine lv_aload_n hx hb dX8_takeColumn_68 rfl (lv_at hl 1 rfl) ?_
    refine va_get (ci := 8) (v := .int g17) (C := RX8) (T := TX8) (N := 35) hx hb hts hiX8 hown hK hP 0 rfl rfl 22 (by decide) fl98 (fun _ h9 => h9) rfl dX8_takeColumn_69 ?_
    replace h := bd_el h
    obtain ⟨⟨r33, g34, g35⟩, hc36, h⟩ := h
    refine callVI (rest := []) ⟨hx, hb, hml, hown, hts⟩ (ctX8_want l D cI cZ cB cS kK kV _ qt qt_w qt_isKept qt_value qt_weight qt_newTube qt_newPrice qt_newLow qt_newHigh qt_newGoods qt_rhythm qt_rhythmLong qt_slug qt_text qt_of qt_buyerColumn qt_buyerKind qt_buyerCoins qt_tryRow qt_tryLong qt_tryFree it_kinds it_columns it_slugs it_newKinds it_newColumns it_newSlugs it_rhythmTold it_textSize g16 g17 it_length g18 g19 it_buyerMany it_tryMany 1 4 g17 N r33 g34 g35 hc36) (cwV 3 hts gX8_takeColumn_X8_want rfl rfl rfl hdX8_want ⟨Nat.le_of_ble_eq_true rfl, Nat.le_of_ble_eq_true rfl⟩) hK hN hX hP (dF hD rfl) hS hA [0] (mcC rfl mcN) (by decide +kernel) [(qt, .inr (8, [.ref qt_w, .ref qt_isKept, .ref qt_value, .ref qt_weight, .ref qt_newTube, .ref qt_newPrice, .ref qt_newLow, .ref qt_newHigh, .ref qt_newGoods, .ref qt_rhythm, .ref qt_rhythmLong, .ref qt_slug, .int it_kinds, .int it_columns, .int it_slugs, .int it_newKinds, .int it_newColumns, .int it_newSlugs, .int it_rhythmTold, .ref qt_text, .int it_textSize, .int g16, .int g17, .int it_length, .int g34, .int g35, .ref qt_of, .ref qt_buyerColumn, .ref qt_buyerKind, .ref qt_buyerCoins, .int it_buyerMany, .ref qt_tryRow, .ref qt_tryLong, .ref qt_tryFree, .int it_tryMany])), (qt_newPrice, .inl (cI, 10, .inl (upd ft_newPrice (Int32.toNatClampNeg n1) r2))), (qt_text, .inl (cI, 400, .inl ft_text)), (qt_newLow, .inl (cI, 10, .inl (upd ft_newLow (Int32.toNatClampNeg n1) r9))), (qt_newHigh, .inl (cI, 10, .inl (upd ft_newHigh (Int32.toNatClampNeg n1) r15))), (qt_newGoods, .inl (cI, 10, .inl ft_newGoods)), (qt_rhythm, .inl (cI, 10, .inl ft_rhythm)), (qt_rhythmLong, .inl (cI, 10, .inl ft_rhythmLong))] [1, 2, 3, 4, 5, 6, 7] (mcC rfl mcN) ((mcC rfl (mcC rfl (mcC rfl (mcC rfl (mcC rfl (mcC rfl (mcC rfl mcN))))))).trans (mcC rfl (mcC rfl (mcC rfl (mcC rfl (mcC rfl (mcC rfl (mcC rfl mcN))))))).symm) 8 rfl (by decide +kernel) (va_recv hK hP (ci := 8) (q0 := 0) rfl rfl) rfl hl.1 rfl (Nat.le_of_ble_eq_true rfl) ⟨Nat.zero_le _, Nat.zero_le _⟩ dX8_takeColumn_72 (fun H locs hP hS => ?_)
    refine lv_istore_n (lv' := [(2, .int r33), (1, .int n1), (0, .ref qt)]) hx hb dX8_takeColumn_75 rfl hl (by decide) rfl (fun ls hl => ?_)
    refine lv_aload_n hx hb dX8_takeColumn_76 rfl (lv_at hl 2 rfl) ?_
    refine va_get (ci := 8) (v := .ref qt_newGoods) (C := RX8) (T := TX8) (N := 35) hx hb hts hiX8 hown hK hP 0 rfl rfl 8 (by decide) fl35 (fun _ h9 => h9) rfl dX8_takeColumn_77 ?_
    refine lv_iload_n hx hb dX8_takeColumn_80 rfl (lv_at hl 1 rfl) ?_
    refine lv_aload_n hx hb dX8_takeColumn_81 rfl (lv_at hl 2 rfl) ?_
    refine lv_iconst (v := 0) hx hb dX8_takeColumn_82 (by decide) ?_
    refine lv_bipush (v := 60) hx hb dX8_takeColumn_83 (by decide) ?_
    replace h := bd_el h
    obtain ⟨⟨r37, g38, g39, g40, g41⟩, hc42, h⟩ := h
    refine callVI (rest := [.int n1, .ref qt_newGoods]) ⟨hx, hb, hml, hown, hts⟩ (ctX8_takeNumber l D cI cZ cB cS kK kV _ qt qt_w qt_isKept qt_value qt_weight qt_newTube qt_newPrice qt_newLow qt_newHigh qt_newGoods qt_rhythm qt_rhythmLong qt_slug qt_text qt_of qt_buyerColumn qt_buyerKind qt_buyerCoins qt_tryRow qt_tryLong qt_tryFree it_kinds it_columns it_slugs it_newKinds it_newColumns it_newSlugs it_rhythmTold it_textSize g16 g17 it_length g34 g35 it_buyerMany it_tryMany ft_text 0 60 N r37 g38 g39 g40 g41 hc42) (cwV 2 hts gX8_takeColumn_X8_takeNumber rfl rfl rfl hdX8_takeNumber ⟨Nat.le_of_ble_eq_true rfl, Nat.le_of_ble_eq_true rfl⟩) hK hN hX hP (dF hD rfl) hS hA [0, 2] (mcC rfl (mcC rfl mcN)) (by decide +kernel) [(qt, .inr (8, [.ref qt_w, .ref qt_isKept, .ref qt_value, .ref qt_weight, .ref qt_newTube, .ref qt_newPrice, .ref qt_newLow, .ref qt_newHigh, .ref qt_newGoods, .ref qt_rhythm, .ref qt_rhythmLong, .ref qt_slug, .int it_kinds, .int it_columns, .int it_slugs, .int it_newKinds, .int it_newColumns, .int it_newSlugs, .int it_rhythmTold, .ref qt_text, .int it_textSize, .int g38, .int g39, .int it_length, .int g40, .int g41, .ref qt_of, .ref qt_buyerColumn, .ref qt_buyerKind, .ref qt_buyerCoins, .int it_buyerMany, .ref qt_tryRow, .ref qt_tryLong, .ref qt_tryFree, .int it_tryMany])), (qt_newPrice, .inl (cI, 10, .inl (upd ft_newPrice (Int32.toNatClampNeg n1) r2))), (qt_text, .inl (cI, 400, .inl ft_text)), (qt_newLow, .inl (cI, 10, .inl (upd ft_newLow (Int32.toNatClampNeg n1) r9))), (qt_newHigh, .inl (cI, 10, .inl (upd ft_newHigh (Int32.toNatClampNeg n1) r15))), (qt_newGoods, .inl (cI, 10, .inl ft_newGoods)), (qt_rhythm, .inl (cI, 10, .inl ft_rhythm)), (qt_rhythmLong, .inl (cI, 10, .inl ft_rhythmLong))] [1, 3, 4, 5, 6, 7] (mcC rfl (mcC rfl mcN)) ((mcC rfl (mcC rfl (mcC rfl (mcC rfl (mcC rfl (mcC rfl mcN)))))).trans (mcC rfl (mcC rfl (mcC rfl (mcC rfl (mcC rfl (mcC rfl mcN)))))).symm) 8 rfl (by decide +kernel) (va_recv hK hP (ci := 8) (q0 := 0) rfl rfl) rfl hl.1 rfl (Nat.le_of_ble_eq_true rfl) ⟨Nat.zero_le _, Nat.zero_le _⟩ dX8_takeColumn_85 (fun H locs hP hS => ?_)
    refine va_iast hx hb hK hP (dF hD rfl) hS 5 0 rfl rfl hi8 dX8_takeColumn_88 (fun H locs hP _ hS => ?_)
    replace hP : va_P D vwCl [(qt, .inr (8, [.ref qt_w, .ref qt_isKept, .ref qt_value, .ref qt_weight, .ref qt_newTube, .ref qt_newPrice, .ref qt_newLow, .ref qt_newHigh, .ref qt_newGoods, .ref qt_rhythm, .ref qt_rhythmLong, .ref qt_slug, .int it_kinds, .int it_columns, .int it_slugs, .int it_newKinds, .int it_newColumns, .int it_newSlugs, .int it_rhythmTold, .ref qt_text, .int it_textSize, .int g38, .int g39, .int it_length, .int g40, .int g41, .ref qt_of, .ref qt_buyerColumn, .ref qt_buyerKind, .ref qt_buyerCoins, .int it_buyerMany, .ref qt_tryRow, .ref qt_tryLong, .ref qt_tryFree, .int it_tryMany])), (qt_newPrice, .inl (cI, 10, .inl (upd ft_newPrice (Int32.toNatClampNeg n1) r2))), (qt_text, .inl (cI, 400, .inl ft_text)), (qt_newLow, .inl (cI, 10, .inl (upd ft_newLow (Int32.toNatClampNeg n1) r9))), (qt_newHigh, .inl (cI, 10, .inl (upd ft_newHigh (Int32.toNatClampNeg n1) r15))), (qt_newGoods, .inl (cI, 10, .inl (upd ft_newGoods (Int32.toNatClampNeg n1) r37))), (qt_rhythm, .inl (cI, 10, .inl ft_rhythm)), (qt_rhythmLong, .inl (cI, 10, .inl ft_rhythmLong))] H := hP
    refine lv_aload_n hx hb dX8_takeColumn_89 rfl (lv_at hl 2 rfl) ?_
    refine va_get (ci := 8) (v := .ref qt_rhythm) (C := RX8) (T := TX8) (N := 35) hx hb hts hiX8 hown hK hP 0 rfl rfl 9 (by decide) fl38 (fun _ h9 => h9) rfl dX8_takeColumn_90 ?_
    refine lv_iload_n hx hb dX8_takeColumn_93 rfl (lv_at hl 1 rfl) ?_
    refine lv_iconst (v := 0) hx hb dX8_takeColumn_94 (by decide) ?_
    refine va_iast hx hb hK hP (dF hD rfl) hS 6 0 rfl rfl hi8 dX8_takeColumn_95 (fun H locs hP _ hS => ?_)
    replace hP : va_P D vwCl [(qt, .inr (8, [.ref qt_w, .ref qt_isKept, .ref qt_value, .ref qt_weight, .ref qt_newTube, .ref qt_newPrice, .ref qt_newLow, .ref qt_newHigh, .ref qt_newGoods, .ref qt_rhythm, .ref qt_rhythmLong, .ref qt_slug, .int it_kinds, .int it_columns, .int it_slugs, .int it_newKinds, .int it_newColumns, .int it_newSlugs, .int it_rhythmTold, .ref qt_text, .int it_textSize, .int g38, .int g39, .int it_length, .int g40, .int g41, .ref qt_of, .ref qt_buyerColumn, .ref qt_buyerKind, .ref qt_buyerCoins, .int it_buyerMany, .ref qt_tryRow, .ref qt_tryLong, .ref qt_tryFree, .int it_tryMany])), (qt_newPrice, .inl (cI, 10, .inl (upd ft_newPrice (Int32.toNatClampNeg n1) r2))), (qt_text, .inl (cI, 400, .inl ft_text)), (qt_newLow, .inl (cI, 10, .inl (upd ft_newLow (Int32.toNatClampNeg n1) r9))), (qt_newHigh, .inl (cI, 10, .inl (upd ft_newHigh (Int32.toNatClampNeg n1) r15))), (qt_newGoods, .inl (cI, 10, .inl (upd ft_newGoods (Int32.toNatClampNeg n1) r37))), (qt_rhythm, .inl (cI, 10, .inl (upd ft_rhythm (Int32.toNatClampNeg n1) 0))), (qt_rhythmLong, .inl (cI, 10, .inl ft_rhythmLong))] H := hP
    refine lv_aload_n hx hb dX8_takeColumn_96 rfl (lv_at hl 2 rfl) ?_
    refine va_get (ci := 8) (v := .ref qt_rhythmLong) (C := RX8) (T := TX8) (N := 35) hx hb hts hiX8 hown hK hP 0 rfl rfl 10 (by decide) fl41 (fun _ h9 => h9) rfl dX8_takeColumn_97 ?_
    refine lv_iload_n hx hb dX8_takeColumn_100 rfl (lv_at hl 1 rfl) ?_
    refine lv_iconst (v := 1) hx hb dX8_takeColumn_101 (by decide) ?_
    refine va_iast hx hb hK hP (dF hD rfl) hS 7 0 rfl rfl hi8 dX8_takeColumn_102 (fun H locs hP _ hS => ?_)
    replace hP : va_P D vwCl [(qt, .inr (8, [.ref qt_w, .ref qt_isKept, .ref qt_value, .ref qt_weight, .ref qt_newTube, .ref qt_newPrice, .ref qt_newLow, .ref qt_newHigh, .ref qt_newGoods, .ref qt_rhythm, .ref qt_rhythmLong, .ref qt_slug, .int it_kinds, .int it_columns, .int it_slugs, .int it_newKinds, .int it_newColumns, .int it_newSlugs, .int it_rhythmTold, .ref qt_text, .int it_textSize, .int g38, .int g39, .int it_length, .int g40, .int g41, .ref qt_of, .ref qt_buyerColumn, .ref qt_buyerKind, .ref qt_buyerCoins, .int it_buyerMany, .ref qt_tryRow, .ref qt_tryLong, .ref qt_tryFree, .int it_tryMany])), (qt_newPrice, .inl (cI, 10, .inl (upd ft_newPrice (Int32.toNatClampNeg n1) r2))), (qt_text, .inl (cI, 400, .inl ft_text)), (qt_newLow, .inl (cI, 10, .inl (upd ft_newLow (Int32.toNatClampNeg n1) r9))), (qt_newHigh, .inl (cI, 10, .inl (upd ft_newHigh (Int32.toNatClampNeg n1) r15))), (qt_newGoods, .inl (cI, 10, .inl (upd ft_newGoods (Int32.toNatClampNeg n1) r37))), (qt_rhythm, .inl (cI, 10, .inl (upd ft_rhythm (Int32.toNatClampNeg n1) 0))), (qt_rhythmLong, .inl (cI, 10, .inl (upd ft_rhythmLong (Int32.toNatClampNeg n1) 1)))] H := hP
    refine lv_aload_n hx hb dX8_takeColumn_103 rfl (lv_at hl 2 rfl) ?_
    refine lv_dup hx hb dX8_takeColumn_104 rfl ?_
    refine va_get (ci := 8) (v := .int it_newColumns) (C := RX8) (T := TX8) (N := 35) hx hb hts hiX8 hown hK hP 0 rfl rfl 16 (by decide) fl124 (fun _ h9 => h9) rfl dX8_takeColumn_105 ?_
    refine lv_iconst (v := 1) hx hb dX8_takeColumn_108 (by decide) ?_
    refine lv_iadd hx hb dX8_takeColumn_109 ?_
    refine lv_topi (fun n43 en43 => ?_)
    replace h := lt_at en43 h
    refine va_put (ci := 8) (v := .int n43) (ty := .int) (C := RX8) (T := TX8) (N := 35) hx hb hts hiX8 tyX8 tyX8_ok nmX8 hown hK hP (dF hD rfl) hS 0 rfl rfl 16 (by decide) fl124 (fun _ h9 => h9) rfl (by decide +kernel) rfl rfl (Nat.le_of_ble_eq_true rfl) dX8_takeColumn_110 (fun H locs hP _ hS => ?_)
    replace hP : va_P D vwCl [(qt, .inr (8, [.ref qt_w, .ref qt_isKept, .ref qt_value, .ref qt_weight, .ref qt_newTube, .ref qt_newPrice, .ref qt_newLow, .ref qt_newHigh, .ref qt_newGoods, .ref qt_rhythm, .ref qt_rhythmLong, .ref qt_slug, .int it_kinds, .int it_columns, .int it_slugs, .int it_newKinds, .int n43, .int it_newSlugs, .int it_rhythmTold, .ref qt_text, .int it_textSize, .int g38, .int g39, .int it_length, .int g40, .int g41, .ref qt_of, .ref qt_buyerColumn, .ref qt_buyerKind, .ref qt_buyerCoins, .int it_buyerMany, .ref qt_tryRow, .ref qt_tryLong, .ref qt_tryFree, .int it_tryMany])), (qt_newPrice, .inl (cI, 10, .inl (upd ft_newPrice (Int32.toNatClampNeg n1) r2))), (qt_text, .inl (cI, 400, .inl ft_text)), (qt_newLow, .inl (cI, 10, .inl (upd ft_newLow (Int32.toNatClampNeg n1) r9))), (qt_newHigh, .inl (cI, 10, .inl (upd ft_newHigh (Int32.toNatClampNeg n1) r15))), (qt_newGoods, .inl (cI, 10, .inl (upd ft_newGoods (Int32.toNatClampNeg n1) r37))), (qt_rhythm, .inl (cI, 10, .inl (upd ft_rhythm (Int32.toNatClampNeg n1) 0))), (qt_rhythmLong, .inl (cI, 10, .inl (upd ft_rhythmLong (Int32.toNatClampNeg n1) 1)))] H := hP
    simp only [Option.some.injEq, Prod.mk.injEq] at h
    obtain ⟨rfl, rfl, rfl, rfl, rfl, rfl, rfl, rfl, rfl, rfl, rfl⟩ := h
    exact hret _ _ _ _ hP hS dX8_takeColumn_113
theorem hdX8_takeColumn : yX8_takeColumn.cls = RX8 ∧ yX8_takeColumn.cls ≠ "java/lang/invoke/MethodHandle" ∧ yX8_takeColumn.cls ≠ "java/lang/invoke/VarHandle" ∧ (parseMethodDescriptor yX8_takeColumn.desc).map (fun d => d.parameters.length) = some 0 := by decide +kernel

noncomputable def fX8_isRow_L17 (N : Nat) : Nat → Int32 → Int32 → Int32 → Int32 → (Nat → Int32) → Option (Int32)
  | 0, _, _, _, _, _ => none
  | k + 1, x1, x2, it_first, it_length, ft_text => (if it_length ≤ x2 then some x1 else (if x1 = 0 then some x1 else ck (it_first + x2) 400 ((if (ft_text (Int32.toNatClampNeg (it_first + x2))) = 108 then lt (x2 + 1) fun n5 => fX8_isRow_L17 N k 1 n5 it_first it_length ft_text else (if (ft_text (Int32.toNatClampNeg (it_first + x2))) = 114 then lt (x2 + 1) fun n8 => fX8_isRow_L17 N k 1 n8 it_first it_length ft_text else lt (x2 + 1) fun n7 => fX8_isRow_L17 N k 0 n7 it_first it_length ft_text)))))
theorem fX8_isRow_L17_s (N : Nat) (k : Nat) (x1 : Int32) (x2 : Int32) (it_first : Int32) (it_length : Int32) (ft_text : Nat → Int32) : fX8_isRow_L17 N (k + 1) x1 x2 it_first it_length ft_text = ((if it_length ≤ x2 then some x1 else (if x1 = 0 then some x1 else ck (it_first + x2) 400 ((if (ft_text (Int32.toNatClampNeg (it_first + x2))) = 108 then lt (x2 + 1) fun n5 => fX8_isRow_L17 N k 1 n5 it_first it_length ft_text else (if (ft_text (Int32.toNatClampNeg (it_first + x2))) = 114 then lt (x2 + 1) fun n8 => fX8_isRow_L17 N k 1 n8 it_first it_length ft_text else lt (x2 + 1) fun n7 => fX8_isRow_L17 N k 0 n7 it_first it_length ft_text)))))) := rfl
noncomputable def fX8_isRow (N : Nat) (it_first : Int32) (it_length : Int32) (ft_text : Nat → Int32) : Option (Int32) := (if 6 < it_length then bd (fX8_isRow_L17 N N 0 0 it_first it_length ft_text) fun n11 => bl n11 (some n11) else bd (fX8_isRow_L17 N N 1 0 it_first it_length ft_text) fun n14 => bl n14 (some n14))
set_option maxHeartbeats 4000000 in
set_option maxRecDepth 100000 in
theorem ctX8_isRow (l : Launch) (D : va_G) (cI cZ cB cS : ClassId) (kK kV : Nat → Nat) (sz : Nat) (qt qt_w qt_isKept qt_value qt_weight qt_newTube qt_newPrice qt_newLow qt_newHigh qt_newGoods qt_rhythm qt_rhythmLong qt_slug qt_text qt_of qt_buyerColumn qt_buyerKind qt_buyerCoins qt_tryRow qt_tryLong qt_tryFree : Nat) (it_kinds : Int32) (it_columns : Int32) (it_slugs : Int32) (it_newKinds : Int32) (it_newColumns : Int32) (it_newSlugs : Int32) (it_rhythmTold : Int32) (it_textSize : Int32) (it_at : Int32) (it_first : Int32) (it_length : Int32) (it_faultOf : Int32) (it_fault : Int32) (it_buyerMany : Int32) (it_tryMany : Int32) (ft_text : Nat → Int32)  (N : Nat) (r0 : Int32)  (h : fX8_isRow N it_first it_length ft_text = some r0) : CtI l yX8_isRow wsX8_isRow { frames := 0, cells := 0, slots := 0, locals := 0 } D (TY cI cZ cB cS) kK kV [.ref qt] [(qt, .inr (8, [.ref qt_w, .ref qt_isKept, .ref qt_value, .ref qt_weight, .ref qt_newTube, .ref qt_newPrice, .ref qt_newLow, .ref qt_newHigh, .ref qt_newGoods, .ref qt_rhythm, .ref qt_rhythmLong, .ref qt_slug, .int it_kinds, .int it_columns, .int it_slugs, .int it_newKinds, .int it_newColumns, .int it_newSlugs, .int it_rhythmTold, .ref qt_text, .int it_textSize, .int it_at, .int it_first, .int it_length, .int it_faultOf, .int it_fault, .ref qt_of, .ref qt_buyerColumn, .ref qt_buyerKind, .ref qt_buyerCoins, .int it_buyerMany, .ref qt_tryRow, .ref qt_tryLong, .ref qt_tryFree, .int it_tryMany])), (qt_text, .inl (cI, 400, .inl ft_text))] [(qt, .inr (8, [.ref qt_w, .ref qt_isKept, .ref qt_value, .ref qt_weight, .ref qt_newTube, .ref qt_newPrice, .ref qt_newLow, .ref qt_newHigh, .ref qt_newGoods, .ref qt_rhythm, .ref qt_rhythmLong, .ref qt_slug, .int it_kinds, .int it_columns, .int it_slugs, .int it_newKinds, .int it_newColumns, .int it_newSlugs, .int it_rhythmTold, .ref qt_text, .int it_textSize, .int it_at, .int it_first, .int it_length, .int it_faultOf, .int it_fault, .ref qt_of, .ref qt_buyerColumn, .ref qt_buyerKind, .ref qt_buyerCoins, .int it_buyerMany, .ref qt_tryRow, .ref qt_tryLong, .ref qt_tryFree, .int it_tryMany])), (qt_text, .inl (cI, 400, .inl ft_text))] sz r0 := by
  refine mkI (cc := cX8_isRow) (maxL := 3) (rt := .boolean) (own := RX8) (by decide) rfl rfl (Nat.le_of_ble_eq_true rfl) ?_
  intro p e s m args below meth c A Z ls hx hb hml hown hts hK hN hX hP hD hA hS hret hl
  have hl : lv_has ls 3 [(0, .ref qt)] := hl
  have fl105 : (Cond.fieldLink RX8 105 "SoupWallModel" "length" "I").before args s = true := hts _ (List.mem_of_getElem? (l := wsX8_isRow) (i := 1) rfl)
  have hiX8 : ∀ w ∈ wsX80, w ∈ wsX8_isRow := fun w h => List.mem_cons_of_mem _ (List.mem_append_right _ h)
  have fl47 : (Cond.fieldLink RX8 47 "SoupWallModel" "text" "[I").before args s = true := hts _ (List.mem_of_getElem? (l := wsX8_isRow) (i := 2) rfl)
  have fl98 : (Cond.fieldLink RX8 98 "SoupWallModel" "first" "I").before args s = true := hts _ (List.mem_of_getElem? (l := wsX8_isRow) (i := 3) rfl)
  have lp17 : ∀ (k : Nat) (x1 : Int32) (x2 : Int32)  (H : Heap) (locs : List Loc) (ls : Array Slot) (o : Int32), fX8_isRow_L17 N k x1 x2 it_first it_length ft_text = some o → va_P D vwCl [(qt, .inr (8, [.ref qt_w, .ref qt_isKept, .ref qt_value, .ref qt_weight, .ref qt_newTube, .ref qt_newPrice, .ref qt_newLow, .ref qt_newHigh, .ref qt_newGoods, .ref qt_rhythm, .ref qt_rhythmLong, .ref qt_slug, .int it_kinds, .int it_columns, .int it_slugs, .int it_newKinds, .int it_newColumns, .int it_newSlugs, .int it_rhythmTold, .ref qt_text, .int it_textSize, .int it_at, .int it_first, .int it_length, .int it_faultOf, .int it_fault, .ref qt_of, .ref qt_buyerColumn, .ref qt_buyerKind, .ref qt_buyerCoins, .int it_buyerMany, .ref qt_tryRow, .ref qt_tryLong, .ref qt_tryFree, .int it_tryMany])), (qt_text, .inl (cI, 400, .inl ft_text))] H → va_S A s.heap H locs → lv_has ls 3 [(0, .ref qt), (1, .int x1), (2, .int x2)] → (∀ (e1 : Int32), e1 = o → ∀ (H : Heap) (locs : List Loc) (ls : Array Slot), va_P D vwCl [(qt, .inr (8, [.ref qt_w, .ref qt_isKept, .ref qt_value, .ref qt_weight, .ref qt_newTube, .ref qt_newPrice, .ref qt_newLow, .ref qt_newHigh, .ref qt_newGoods, .ref qt_rhythm, .ref qt_rhythmLong, .ref qt_slug, .int it_kinds, .int it_columns, .int it_slugs, .int it_newKinds, .int it_newColumns, .int it_newSlugs, .int it_rhythmTold, .ref qt_text, .int it_textSize, .int it_at, .int it_first, .int it_length, .int it_faultOf, .int it_fault, .ref qt_of, .ref qt_buyerColumn, .ref qt_buyerKind, .ref qt_buyerCoins, .int it_buyerMany, .ref qt_tryRow, .ref qt_tryLong, .ref qt_tryFree, .int it_tryMany])), (qt_text, .inl (cI, 400, .inl ft_text))] H → va_S A s.heap H locs → lv_has ls 3 [(1, .int e1)] → W p l e ({ frames := 0, cells := 0, slots := 0, locals := 0 } : Room) s m args below meth c H locs 0 0 Z (F0 m 73 ls [])) → W p l e ({ frames := 0, cells := 0, slots := 0, locals := 0 } : Room) s m args below meth c H locs 0 0 Z (F0 m 17 ls []) := by
    intro k
    induction k with
    | zero =>
      intro x1 x2 H locs ls o h
      exact nomatch (show (none : Option (Int32)) = some o from h)
    | succ k ih =>
      intro x1 x2 H locs ls o h hP hS hl K
      rw [fX8_isRow_L17_s] at h
      refine lv_iload_n hx hb dX8_isRow_17 rfl (lv_at hl 2 rfl) ?_
      refine lv_aload_n hx hb dX8_isRow_18 rfl (lv_at hl 0 rfl) ?_
      refine va_get (ci := 8) (v := .int it_length) (C := RX8) (T := TX8) (N := 35) hx hb hts hiX8 hown hK hP 0 rfl rfl 23 (by decide) fl105 (fun _ h9 => h9) rfl dX8_isRow_19 ?_
      refine lv_icmp_ge (tgt := 73) hx hb dX8_isRow_22 (by decide) (fun c1 => ?_) (fun c1 => ?_)
      · replace h := if_t c1 h
        exact K x1 (Option.some.inj h) _ _ _ hP hS (lv_sub hl [1] rfl)
      · replace h := if_f c1 h
        refine lv_iload_n hx hb dX8_isRow_25 rfl (lv_at hl 1 rfl) ?_
        refine lv_if_eq (tgt := 73) hx hb dX8_isRow_26 (by decide) (fun c2 => ?_) (fun c2 => ?_)
        · replace h := if_t c2 h
          exact K x1 (Option.some.inj h) _ _ _ hP hS (lv_sub hl [1] rfl)
        · replace h := if_f c2 h
          refine lv_aload_n hx hb dX8_isRow_29 rfl (lv_at hl 0 rfl) ?_
          refine va_get (ci := 8) (v := .ref qt_text) (C := RX8) (T := TX8) (N := 35) hx hb hts hiX8 hown hK hP 0 rfl rfl 19 (by decide) fl47 (fun _ h9 => h9) rfl dX8_isRow_30 ?_
          refine lv_aload_n hx hb dX8_isRow_33 rfl (lv_at hl 0 rfl) ?_
          refine va_get (ci := 8) (v := .int it_first) (C := RX8) (T := TX8) (N := 35) hx hb hts hiX8 hown hK hP 0 rfl rfl 22 (by decide) fl98 (fun _ h9 => h9) rfl dX8_isRow_34 ?_
          refine lv_iload_n hx hb dX8_isRow_37 rfl (lv_at hl 2 rfl) ?_
          refine lv_iadd hx hb dX8_isRow_38 ?_
          replace h := ck_el h
          obtain ⟨hi3, h⟩ := h
          refine va_iald hx hb hK hP 1 0 rfl rfl hi3 dX8_isRow_39 ?_
          refine lv_bipush (v := 108) hx hb dX8_isRow_40 (by decide) ?_
          refine lv_icmp_eq (tgt := 61) hx hb dX8_isRow_42 (by decide) (fun c4 => ?_) (fun c4 => ?_)
          · replace h := if_t c4 h
            refine lv_iconst (v := 1) hx hb dX8_isRow_61 (by decide) ?_
            refine lv_goto (tgt := 66) hx hb dX8_isRow_62 (by decide) ?_
            refine lv_istore_n (lv' := [(1, .int 1), (0, .ref qt), (2, .int x2)]) hx hb dX8_isRow_66 rfl hl (by decide) rfl (fun ls hl => ?_)
            obtain ⟨n5, en5⟩ : ∃ z : Int32, z = x2 + 1 := ⟨_, rfl⟩
            replace h := lt_at en5 h
            refine lv_iinc (v := n5) (lv' := [(2, .int n5), (1, .int 1), (0, .ref qt)]) hx hb dX8_isRow_67 hl (k := 2) rfl (by rw [en5]; rfl) (by decide) rfl (fun ls hl => ?_)
            refine lv_goto (tgt := 17) hx hb dX8_isRow_70 (by decide) ?_
            exact ih 1 n5 _ _ _ o h hP hS (lv_sub hl [2, 1, 0] rfl) K
          · replace h := if_f c4 h
            refine lv_aload_n hx hb dX8_isRow_45 rfl (lv_at hl 0 rfl) ?_
            refine va_get (ci := 8) (v := .ref qt_text) (C := RX8) (T := TX8) (N := 35) hx hb hts hiX8 hown hK hP 0 rfl rfl 19 (by decide) fl47 (fun _ h9 => h9) rfl dX8_isRow_46 ?_
            refine lv_aload_n hx hb dX8_isRow_49 rfl (lv_at hl 0 rfl) ?_
            refine va_get (ci := 8) (v := .int it_first) (C := RX8) (T := TX8) (N := 35) hx hb hts hiX8 hown hK hP 0 rfl rfl 22 (by decide) fl98 (fun _ h9 => h9) rfl dX8_isRow_50 ?_
            refine lv_iload_n hx hb dX8_isRow_53 rfl (lv_at hl 2 rfl) ?_
            refine lv_iadd hx hb dX8_isRow_54 ?_
            refine va_iald hx hb hK hP 1 0 rfl rfl hi3 dX8_isRow_55 ?_
            refine lv_bipush (v := 114) hx hb dX8_isRow_56 (by decide) ?_
            refine lv_icmp_ne (tgt := 65) hx hb dX8_isRow_58 (by decide) (fun c6 => ?_) (fun c6 => ?_)
            · replace h := if_f c6 h
              refine lv_iconst (v := 0) hx hb dX8_isRow_65 (by decide) ?_
              refine lv_istore_n (lv' := [(1, .int 0), (0, .ref qt), (2, .int x2)]) hx hb dX8_isRow_66 rfl hl (by decide) rfl (fun ls hl => ?_)
              obtain ⟨n7, en7⟩ : ∃ z : Int32, z = x2 + 1 := ⟨_, rfl⟩
              replace h := lt_at en7 h
              refine lv_iinc (v := n7) (lv' := [(2, .int n7), (1, .int 0), (0, .ref qt)]) hx hb dX8_isRow_67 hl (k := 2) rfl (by rw [en7]; rfl) (by decide) rfl (fun ls hl => ?_)
              refine lv_goto (tgt := 17) hx hb dX8_isRow_70 (by decide) ?_
              exact ih 0 n7 _ _ _ o h hP hS (lv_sub hl [2, 1, 0] rfl) K
            · replace h := if_t c6 h
              refine lv_iconst (v := 1) hx hb dX8_isRow_61 (by decide) ?_
              refine lv_goto (tgt := 66) hx hb dX8_isRow_62 (by decide) ?_
              refine lv_istore_n (lv' := [(1, .int 1), (0, .ref qt), (2, .int x2)]) hx hb dX8_isRow_66 rfl hl (by decide) rfl (fun ls hl => ?_)
              obtain ⟨n8, en8⟩ : ∃ z : Int32, z = x2 + 1 := ⟨_, rfl⟩
              replace h := lt_at en8 h
              refine lv_iinc (v := n8) (lv' := [(2, .int n8), (1, .int 1), (0, .ref qt)]) hx hb dX8_isRow_67 hl (k := 2) rfl (by rw [en8]; rfl) (by decide) rfl (fun ls hl => ?_)
              refine lv_goto (tgt := 17) hx hb dX8_isRow_70 (by decide) ?_
              exact ih 1 n8 _ _ _ o h hP hS (lv_sub hl [2, 1, 0] rfl) K
  unfold fX8_isRow at h
  refine lv_aload_n hx hb dX8_isRow_0 rfl (lv_at hl 0 rfl) ?_
  refine va_get (ci := 8) (v := .int it_length) (C := RX8) (T := TX8) (N := 35) hx hb hts hiX8 hown hK hP 0 rfl rfl 23 (by decide) fl105 (fun _ h9 => h9) rfl dX8_isRow_1 ?_
  refine lv_bipush (v := 6) hx hb dX8_isRow_4 (by decide) ?_
  refine lv_icmp_gt (tgt := 13) hx hb dX8_isRow_6 (by decide) (fun c9 => ?_) (fun c9 => ?_)
  · replace h := if_t c9 h
    refine lv_iconst (v := 0) hx hb dX8_isRow_13 (by decide) ?_
    refine lv_istore_n (lv' := [(1, .int 0), (0, .ref qt)]) hx hb dX8_isRow_14 rfl hl (by decide) rfl (fun ls hl => ?_)
    refine lv_iconst (v := 0) hx hb dX8_isRow_15 (by decide) ?_
    refine lv_istore_n (lv' := [(2, .int 0), (1, .int 0), (0, .ref qt)]) hx hb dX8_isRow_16 rfl hl (by decide) rfl (fun ls hl => ?_)
    replace h := bd_el h
    obtain ⟨o10, ho10, h⟩ := h
    refine lp17 N 0 0 _ _ _ o10 ho10 hP hS (lv_sub hl [2, 1, 0] rfl) (fun n11 eo H locs ls hP hS hl => ?_)
    subst eo
    refine lv_iload_n hx hb dX8_isRow_73 rfl (lv_at hl 0 rfl) ?_
    replace h := bl_el h
    obtain ⟨hn12, h⟩ := h
    simp only [Option.some.injEq] at h
    subst h
    exact hret _ _ _ _ hP hS hn12 dX8_isRow_74
  · replace h := if_f c9 h
    refine lv_iconst (v := 1) hx hb dX8_isRow_9 (by decide) ?_
    refine lv_goto (tgt := 14) hx hb dX8_isRow_10 (by decide) ?_
    refine lv_istore_n (lv' := [(1, .int 1), (0, .ref qt)]) hx hb dX8_isRow_14 rfl hl (by decide) rfl (fun ls hl => ?_)
    refine lv_iconst (v := 0) hx hb dX8_isRow_15 (by decide) ?_
    refine lv_istore_n (lv' := [(2, .int 0), (1, .int 1), (0, .ref qt)]) hx hb dX8_isRow_16 rfl hl (by decide) rfl (fun ls hl => ?_)
    replace h := bd_el h
    obtain ⟨o13, ho13, h⟩ := h
    refine lp17 N 1 0 _ _ _ o13 ho13 hP hS (lv_sub hl [2, 1, 0] rfl) (fun n14 eo H locs ls hP hS hl => ?_)
    subst eo
    refine lv_iload_n hx hb dX8_isRow_73 rfl (lv_at hl 0 rfl) ?_
    replace h := bl_el h
    obtain ⟨hn15, h⟩ := h
    simp only [Option.some.injEq] at h
    subst h
    exact hret _ _ _ _ hP hS hn15 dX8_isRow_74
theorem hdX8_isRow : yX8_isRow.cls = RX8 ∧ yX8_isRow.cls ≠ "java/lang/invoke/MethodHandle" ∧ yX8_isRow.cls ≠ "java/lang/invoke/VarHandle" ∧ (parseMethodDescriptor yX8_isRow.desc).map (fun d => d.parameters.length) = some 0 := by decide +kernel

noncomputable def fX8_takeKick_L108 (N : Nat) : Nat → Int32 → Int32 → Int32 → Int32 → Int32 → (Nat → Int32) → Option (Int32)
  | 0, _, _, _, _, _, _ => none
  | k + 1, x1, x2, x3, it_first, it_length, ft_text => (if it_length ≤ x3 then some x2 else ck (it_first + x3) 400 ((if (ft_text (Int32.toNatClampNeg (it_first + x3))) = 114 then bd (fX8_one N 1) fun r8 => lt (x2 ||| (r8 <<< (x3 &&& 31))) fun n10 => lt (x3 + 1) fun n11 => fX8_takeKick_L108 N k x1 n10 n11 it_first it_length ft_text else bd (fX8_one N 0) fun r4 => lt (x2 ||| (r4 <<< (x3 &&& 31))) fun n6 => lt (x3 + 1) fun n7 => fX8_takeKick_L108 N k x1 n6 n7 it_first it_length ft_text)))
theorem fX8_takeKick_L108_s (N : Nat) (k : Nat) (x1 : Int32) (x2 : Int32) (x3 : Int32) (it_first : Int32) (it_length : Int32) (ft_text : Nat → Int32) : fX8_takeKick_L108 N (k + 1) x1 x2 x3 it_first it_length ft_text = ((if it_length ≤ x3 then some x2 else ck (it_first + x3) 400 ((if (ft_text (Int32.toNatClampNeg (it_first + x3))) = 114 then bd (fX8_one N 1) fun r8 => lt (x2 ||| (r8 <<< (x3 &&& 31))) fun n10 => lt (x3 + 1) fun n11 => fX8_takeKick_L108 N k x1 n10 n11 it_first it_length ft_text else bd (fX8_one N 0) fun r4 => lt (x2 ||| (r4 <<< (x3 &&& 31))) fun n6 => lt (x3 + 1) fun n7 => fX8_takeKick_L108 N k x1 n6 n7 it_first it_length ft_text)))) := rfl
noncomputable def fX8_takeKick (N : Nat) (it_newColumns : Int32) (it_rhythmTold : Int32) (it_textSize : Int32) (it_at : Int32) (it_first : Int32) (it_length : Int32) (it_faultOf : Int32) (it_fault : Int32) (ft_text : Nat → Int32) (ft_rhythm : Nat → Int32) (ft_rhythmLong : Nat → Int32) : Option (Int32 × Int32 × Int32 × Int32 × Int32 × Int32 × (Nat → Int32) × (Nat → Int32)) := bd (fX8_takeNumber N it_textSize it_at it_first it_faultOf it_fault ft_text 0 (it_newColumns - 1)) fun (r12, g13, g14, g15, g16) => (if 0 < g15 then some (it_rhythmTold, g13, g14, it_length, g15, g16, ft_rhythm, ft_rhythmLong) else bd (fX8_has N it_rhythmTold r12) fun r19 => (if r19 = 0 then bd (fX8_want N g15 g16 1 4 g14) fun (r63, g64, g65) => (if r63 = 0 then some (it_rhythmTold, g13, g14, it_length, g64, g65, ft_rhythm, ft_rhythmLong) else lt (it_rhythmTold ||| (1 <<< (r12 &&& 31))) fun n68 => bd (fX8_takeWord N it_textSize g13 g14 it_length ft_text) fun (g69, g70, g71) => (if g71 ≤ 0 then bd (fX8_want N g64 g65 0 1 g70) fun (r74, g75, g76) => (if r74 = 0 then some (n68, g69, g70, g71, g75, g76, ft_rhythm, ft_rhythmLong) else bd (fX8_isRow N g70 g71 ft_text) fun r79 => bd (fX8_want N g75 g76 r79 4 g70) fun (r81, g82, g83) => (if r81 = 0 then some (n68, g69, g70, g71, g82, g83, ft_rhythm, ft_rhythmLong) else bd (fX8_takeKick_L108 N N r12 0 0 g70 g71 ft_text) fun n87 => ck (5 + r12) 10 (some (n68, g69, g70, g71, g82, g83, upd ft_rhythm (Int32.toNatClampNeg (5 + r12)) n87, upd ft_rhythmLong (Int32.toNatClampNeg (5 + r12)) g71)))) else bd (fX8_want N g64 g65 1 1 g70) fun (r89, g90, g91) => (if r89 = 0 then some (n68, g69, g70, g71, g90, g91, ft_rhythm, ft_rhythmLong) else bd (fX8_isRow N g70 g71 ft_text) fun r94 => bd (fX8_want N g90 g91 r94 4 g70) fun (r96, g97, g98) => (if r96 = 0 then some (n68, g69, g70, g71, g97, g98, ft_rhythm, ft_rhythmLong) else bd (fX8_takeKick_L108 N N r12 0 0 g70 g71 ft_text) fun n102 => ck (5 + r12) 10 (some (n68, g69, g70, g71, g97, g98, upd ft_rhythm (Int32.toNatClampNeg (5 + r12)) n102, upd ft_rhythmLong (Int32.toNatClampNeg (5 + r12)) g71)))))) else bd (fX8_want N g15 g16 0 4 g14) fun (r22, g23, g24) => (if r22 = 0 then some (it_rhythmTold, g13, g14, it_length, g23, g24, ft_rhythm, ft_rhythmLong) else lt (it_rhythmTold ||| (1 <<< (r12 &&& 31))) fun n27 => bd (fX8_takeWord N it_textSize g13 g14 it_length ft_text) fun (g28, g29, g30) => (if g30 ≤ 0 then bd (fX8_want N g23 g24 0 1 g29) fun (r33, g34, g35) => (if r33 = 0 then some (n27, g28, g29, g30, g34, g35, ft_rhythm, ft_rhythmLong) else bd (fX8_isRow N g29 g30 ft_text) fun r38 => bd (fX8_want N g34 g35 r38 4 g29) fun (r40, g41, g42) => (if r40 = 0 then some (n27, g28, g29, g30, g41, g42, ft_rhythm, ft_rhythmLong) else bd (fX8_takeKick_L108 N N r12 0 0 g29 g30 ft_text) fun n46 => ck (5 + r12) 10 (some (n27, g28, g29, g30, g41, g42, upd ft_rhythm (Int32.toNatClampNeg (5 + r12)) n46, upd ft_rhythmLong (Int32.toNatClampNeg (5 + r12)) g30)))) else bd (fX8_want N g23 g24 1 1 g29) fun (r48, g49, g50) => (if r48 = 0 then some (n27, g28, g29, g30, g49, g50, ft_rhythm, ft_rhythmLong) else bd (fX8_isRow N g29 g30 ft_text) fun r53 => bd (fX8_want N g49 g50 r53 4 g29) fun (r55, g56, g57) => (if r55 = 0 then some (n27, g28, g29, g30, g56, g57, ft_rhythm, ft_rhythmLong) else bd (fX8_takeKick_L108 N N r12 0 0 g29 g30 ft_text) fun n61 => ck (5 + r12) 10 (some (n27, g28, g29, g30, g56, g57, upd ft_rhythm (Int32.toNatClampNeg (5 + r12)) n61, upd ft_rhythmLong (Int32.toNatClampNeg (5 + r12)) g30))))))))
set_option maxHeartbeats 4000000 in
set_option maxRecDepth 100000 in
theorem ctX8_takeKick (l : Launch) (D : va_G) (cI cZ cB cS : ClassId) (kK kV : Nat → Nat) (sz : Nat) (qt qt_w qt_isKept qt_value qt_weight qt_newTube qt_newPrice qt_newLow qt_newHigh qt_newGoods qt_rhythm qt_rhythmLong qt_slug qt_text qt_of qt_buyerColumn qt_buyerKind qt_buyerCoins qt_tryRow qt_tryLong qt_tryFree : Nat) (it_kinds : Int32) (it_columns : Int32) (it_slugs : Int32) (it_newKinds : Int32) (it_newColumns : Int32) (it_newSlugs : Int32) (it_rhythmTold : Int32) (it_textSize : Int32) (it_at : Int32) (it_first : Int32) (it_length : Int32) (it_faultOf : Int32) (it_fault : Int32) (it_buyerMany : Int32) (it_tryMany : Int32) (ft_text : Nat → Int32) (ft_rhythm : Nat → Int32) (ft_rhythmLong : Nat → Int32)  (N : Nat) (w_it_rhythmTold : Int32) (w_it_at : Int32) (w_it_first : Int32) (w_it_length : Int32) (w_it_faultOf : Int32) (w_it_fault : Int32) (w_ft_rhythm : Nat → Int32) (w_ft_rhythmLong : Nat → Int32) (h : fX8_takeKick N it_newColumns it_rhythmTold it_textSize it_at it_first it_length it_faultOf it_fault ft_text ft_rhythm ft_rhythmLong = some (w_it_rhythmTold, w_it_at, w_it_first, w_it_length, w_it_faultOf, w_it_fault, w_ft_rhythm, w_ft_rhythmLong)) : CtV l yX8_takeKick wsX8_takeKick { frames := 2, cells := 0, slots := 0, locals := 50 } D (TY cI cZ cB cS) kK kV [.ref qt] [(qt, .inr (8, [.ref qt_w, .ref qt_isKept, .ref qt_value, .ref qt_weight, .ref qt_newTube, .ref qt_newPrice, .ref qt_newLow, .ref qt_newHigh, .ref qt_newGoods, .ref qt_rhythm, .ref qt_rhythmLong, .ref qt_slug, .int it_kinds, .int it_columns, .int it_slugs, .int it_newKinds, .int it_newColumns, .int it_newSlugs, .int it_rhythmTold, .ref qt_text, .int it_textSize, .int it_at, .int it_first, .int it_length, .int it_faultOf, .int it_fault, .ref qt_of, .ref qt_buyerColumn, .ref qt_buyerKind, .ref qt_buyerCoins, .int it_buyerMany, .ref qt_tryRow, .ref qt_tryLong, .ref qt_tryFree, .int it_tryMany])), (qt_text, .inl (cI, 400, .inl ft_text)), (qt_rhythm, .inl (cI, 10, .inl ft_rhythm)), (qt_rhythmLong, .inl (cI, 10, .inl ft_rhythmLong))] [(qt, .inr (8, [.ref qt_w, .ref qt_isKept, .ref qt_value, .ref qt_weight, .ref qt_newTube, .ref qt_newPrice, .ref qt_newLow, .ref qt_newHigh, .ref qt_newGoods, .ref qt_rhythm, .ref qt_rhythmLong, .ref qt_slug, .int it_kinds, .int it_columns, .int it_slugs, .int it_newKinds, .int it_newColumns, .int it_newSlugs, .int w_it_rhythmTold, .ref qt_text, .int it_textSize, .int w_it_at, .int w_it_first, .int w_it_length, .int w_it_faultOf, .int w_it_fault, .ref qt_of, .ref qt_buyerColumn, .ref qt_buyerKind, .ref qt_buyerCoins, .int it_buyerMany, .ref qt_tryRow, .ref qt_tryLong, .ref qt_tryFree, .int it_tryMany])), (qt_text, .inl (cI, 400, .inl ft_text)), (qt_rhythm, .inl (cI, 10, .inl w_ft_rhythm)), (qt_rhythmLong, .inl (cI, 10, .inl w_ft_rhythmLong))] sz := by
  refine mkV (cc := cX8_takeKick) (maxL := 4) (own := RX8) (by decide) rfl rfl (Nat.le_of_ble_eq_true rfl) ?_
  intro p e s m args below meth c A Z ls hx hb hml hown hts hK hN hX hP hD hA hS hret hl
  have hl : lv_has ls 4 [(0, .ref qt)] := hl
  have fl105 : (Cond.fieldLink RX8 105 "SoupWallModel" "length" "I").before args s = true := hts _ (List.mem_of_getElem? (l := wsX8_takeKick) (i := 5) rfl)
  have hiX8 : ∀ w ∈ wsX80, w ∈ wsX8_takeKick := fun w h => List.mem_cons_of_mem _ (List.mem_append_right _ h)
  have fl47 : (Cond.fieldLink RX8 47 "SoupWallModel" "text" "[I").before args s = true := hts _ (List.mem_of_getElem? (l := wsX8_takeKick) (i := 6) rfl)
  have fl98 : (Cond.fieldLink RX8 98 "SoupWallModel" "first" "I").before args s = true := hts _ (List.mem_of_getElem? (l := wsX8_takeKick) (i := 4) rfl)
  have fl124 : (Cond.fieldLink RX8 124 "SoupWallModel" "newColumns" "I").before args s = true := hts _ (List.mem_of_getElem? (l := wsX8_takeKick) (i := 1) rfl)
  have fl91 : (Cond.fieldLink RX8 91 "SoupWallModel" "faultOf" "I").before args s = true := hts _ (List.mem_of_getElem? (l := wsX8_takeKick) (i := 2) rfl)
  have fl127 : (Cond.fieldLink RX8 127 "SoupWallModel" "rhythmTold" "I").before args s = true := hts _ (List.mem_of_getElem? (l := wsX8_takeKick) (i := 3) rfl)
  have fl38 : (Cond.fieldLink RX8 38 "SoupWallModel" "rhythm" "[I").before args s = true := hts _ (List.mem_of_getElem? (l := wsX8_takeKick) (i := 7) rfl)
  have fl41 : (Cond.fieldLink RX8 41 "SoupWallModel" "rhythmLong" "[I").before args s = true := hts _ (List.mem_of_getElem? (l := wsX8_takeKick) (i := 8) rfl)
  have lp108 : ∀ (k : Nat) (x1 : Int32) (x2 : Int32) (x3 : Int32) (it_rhythmTold : Int32) (it_at : Int32) (it_first : Int32) (it_length : Int32) (it_faultOf : Int32) (it_fault : Int32) (ft_rhythm : Nat → Int32) (ft_rhythmLong : Nat → Int32) (H : Heap) (locs : List Loc) (ls : Array Slot) (o : Int32), fX8_takeKick_L108 N k x1 x2 x3 it_first it_length ft_text = some o → va_P D vwCl [(qt, .inr (8, [.ref qt_w, .ref qt_isKept, .ref qt_value, .ref qt_weight, .ref qt_newTube, .ref qt_newPrice, .ref qt_newLow, .ref qt_newHigh, .ref qt_newGoods, .ref qt_rhythm, .ref qt_rhythmLong, .ref qt_slug, .int it_kinds, .int it_columns, .int it_slugs, .int it_newKinds, .int it_newColumns, .int it_newSlugs, .int it_rhythmTold, .ref qt_text, .int it_textSize, .int it_at, .int it_first, .int it_length, .int it_faultOf, .int it_fault, .ref qt_of, .ref qt_buyerColumn, .ref qt_buyerKind, .ref qt_buyerCoins, .int it_buyerMany, .ref qt_tryRow, .ref qt_tryLong, .ref qt_tryFree, .int it_tryMany])), (qt_text, .inl (cI, 400, .inl ft_text)), (qt_rhythm, .inl (cI, 10, .inl ft_rhythm)), (qt_rhythmLong, .inl (cI, 10, .inl ft_rhythmLong))] H → va_S A s.heap H locs → lv_has ls 4 [(0, .ref qt), (1, .int x1), (2, .int x2), (3, .int x3)] → (∀ (e2 : Int32), e2 = o → ∀ (H : Heap) (locs : List Loc) (ls : Array Slot), va_P D vwCl [(qt, .inr (8, [.ref qt_w, .ref qt_isKept, .ref qt_value, .ref qt_weight, .ref qt_newTube, .ref qt_newPrice, .ref qt_newLow, .ref qt_newHigh, .ref qt_newGoods, .ref qt_rhythm, .ref qt_rhythmLong, .ref qt_slug, .int it_kinds, .int it_columns, .int it_slugs, .int it_newKinds, .int it_newColumns, .int it_newSlugs, .int it_rhythmTold, .ref qt_text, .int it_textSize, .int it_at, .int it_first, .int it_length, .int it_faultOf, .int it_fault, .ref qt_of, .ref qt_buyerColumn, .ref qt_buyerKind, .ref qt_buyerCoins, .int it_buyerMany, .ref qt_tryRow, .ref qt_tryLong, .ref qt_tryFree, .int it_tryMany])), (qt_text, .inl (cI, 400, .inl ft_text)), (qt_rhythm, .inl (cI, 10, .inl ft_rhythm)), (qt_rhythmLong, .inl (cI, 10, .inl ft_rhythmLong))] H → va_S A s.heap H locs → lv_has ls 4 [(0, .ref qt), (1, .int x1), (2, .int e2)] → W p l e ({ frames := 2, cells := 0, slots := 0, locals := 50 } : Room) s m args below meth c H locs 0 0 Z (F0 m 151 ls [])) → W p l e ({ frames := 2, cells := 0, slots := 0, locals := 50 } : Room) s m args below meth c H locs 0 0 Z (F0 m 108 ls []) := by
    intro k
    induction k with
    | zero =>
      intro x1 x2 x3 it_rhythmTold it_at it_first it_length it_faultOf it_fault ft_rhythm ft_rhythmLong H locs ls o h
      exact nomatch (show (none : Option (Int32)) = some o from h)
    | succ k ih =>
      intro x1 x2 x3 it_rhythmTold it_at it_first it_length it_faultOf it_fault ft_rhythm ft_rhythmLong H locs ls o h hP hS hl K
      rw [fX8_takeKick_L108_s] at h
      refine lv_iload_n hx hb dX8_takeKick_108 rfl (lv_at hl 3 rfl) ?_
      refine lv_aload_n hx hb dX8_takeKick_109 rfl (lv_at hl 0 rfl) ?_
      refine va_get (ci := 8) (v := .int it_length) (C := RX8) (T := TX8) (N := 35) hx hb hts hiX8 hown hK hP 0 rfl rfl 23 (by decide) fl105 (fun _ h9 => h9) rfl dX8_takeKick_110 ?_
      refine lv_icmp_ge (tgt := 151) hx hb dX8_takeKick_113 (by decide) (fun c1 => ?_) (fun c1 => ?_)
      · replace h := if_t c1 h
        exact K x2 (Option.some.inj h) _ _ _ hP hS (lv_sub hl [0, 1, 2] rfl)
      · replace h := if_f c1 h
        refine lv_iload_n hx hb dX8_takeKick_116 rfl (lv_at hl 2 rfl) ?_
        refine lv_aload_n hx hb dX8_takeKick_117 rfl (lv_at hl 0 rfl) ?_
        refine va_get (ci := 8) (v := .ref qt_text) (C := RX8) (T := TX8) (N := 35) hx hb hts hiX8 hown hK hP 0 rfl rfl 19 (by decide) fl47 (fun _ h9 => h9) rfl dX8_takeKick_118 ?_
        refine lv_aload_n hx hb dX8_takeKick_121 rfl (lv_at hl 0 rfl) ?_
        refine va_get (ci := 8) (v := .int it_first) (C := RX8) (T := TX8) (N := 35) hx hb hts hiX8 hown hK hP 0 rfl rfl 22 (by decide) fl98 (fun _ h9 => h9) rfl dX8_takeKick_122 ?_
        refine lv_iload_n hx hb dX8_takeKick_125 rfl (lv_at hl 3 rfl) ?_
        refine lv_iadd hx hb dX8_takeKick_126 ?_
        replace h := ck_el h
        obtain ⟨hi2, h⟩ := h
        refine va_iald hx hb hK hP 1 0 rfl rfl hi2 dX8_takeKick_127 ?_
        refine lv_bipush (v := 114) hx hb dX8_takeKick_128 (by decide) ?_
        refine lv_icmp_ne (tgt := 137) hx hb dX8_takeKick_130 (by decide) (fun c3 => ?_) (fun c3 => ?_)
        · replace h := if_f c3 h
          refine lv_iconst (v := 0) hx hb dX8_takeKick_137 (by decide) ?_
          replace h := bd_el h
          obtain ⟨r4, hc5, h⟩ := h
          refine callSI (rest := [.int x2]) ⟨hx, hb, hml, hown, hts⟩ (ctX8_one l D cI cZ cB cS kK kV _ 0 N r4 hc5) (va_cwS 1 hts gX8_takeKick_X8_one rfl rfl rfl hdX8_one ⟨Nat.le_of_ble_eq_true rfl, Nat.le_of_ble_eq_true rfl⟩) hK hN hX hP (dF hD rfl) hS hA [] mcN (by decide +kernel) [(qt, .inr (8, [.ref qt_w, .ref qt_isKept, .ref qt_value, .ref qt_weight, .ref qt_newTube, .ref qt_newPrice, .ref qt_newLow, .ref qt_newHigh, .ref qt_newGoods, .ref qt_rhythm, .ref qt_rhythmLong, .ref qt_slug, .int it_kinds, .int it_columns, .int it_slugs, .int it_newKinds, .int it_newColumns, .int it_newSlugs, .int it_rhythmTold, .ref qt_text, .int it_textSize, .int it_at, .int it_first, .int it_length, .int it_faultOf, .int it_fault, .ref qt_of, .ref qt_buyerColumn, .ref qt_buyerKind, .ref qt_buyerCoins, .int it_buyerMany, .ref qt_tryRow, .ref qt_tryLong, .ref qt_tryFree, .int it_tryMany])), (qt_text, .inl (cI, 400, .inl ft_text)), (qt_rhythm, .inl (cI, 10, .inl ft_rhythm)), (qt_rhythmLong, .inl (cI, 10, .inl ft_rhythmLong))] [0, 1, 2, 3] mcN ((mcC rfl (mcC rfl (mcC rfl (mcC rfl mcN)))).trans (mcC rfl (mcC rfl (mcC rfl (mcC rfl mcN)))).symm) 4 rfl (by decide +kernel) rfl hl.1 rfl (Nat.le_of_ble_eq_true rfl) ⟨Nat.zero_le _, Nat.zero_le _⟩ dX8_takeKick_138 (fun H locs hP hS => ?_)
          refine lv_iload_n hx hb dX8_takeKick_141 rfl (lv_at hl 3 rfl) ?_
          refine lv_ishl hx hb dX8_takeKick_142 ?_
          refine lv_ior hx hb dX8_takeKick_143 ?_
          refine lv_topi (fun n6 en6 => ?_)
          replace h := lt_at en6 h
          refine lv_istore_n (lv' := [(2, .int n6), (0, .ref qt), (1, .int x1), (3, .int x3)]) hx hb dX8_takeKick_144 rfl hl (by decide) rfl (fun ls hl => ?_)
          obtain ⟨n7, en7⟩ : ∃ z : Int32, z = x3 + 1 := ⟨_, rfl⟩
          replace h := lt_at en7 h
          refine lv_iinc (v := n7) (lv' := [(3, .int n7), (2, .int n6), (0, .ref qt), (1, .int x1)]) hx hb dX8_takeKick_145 hl (k := 3) rfl (by rw [en7]; rfl) (by decide) rfl (fun ls hl => ?_)
          refine lv_goto (tgt := 108) hx hb dX8_takeKick_148 (by decide) ?_
          exact ih x1 n6 n7 it_rhythmTold it_at it_first it_length it_faultOf it_fault ft_rhythm ft_rhythmLong _ _ _ o h hP hS (lv_sub hl [2, 3, 1, 0] rfl) K
        · replace h := if_t c3 h
          refine lv_iconst (v := 1) hx hb dX8_takeKick_133 (by decide) ?_
          refine lv_goto (tgt := 138) hx hb dX8_takeKick_134 (by decide) ?_
          replace h := bd_el h
          obtain ⟨r8, hc9, h⟩ := h
          refine callSI (rest := [.int x2]) ⟨hx, hb, hml, hown, hts⟩ (ctX8_one l D cI cZ cB cS kK kV _ 1 N r8 hc9) (va_cwS 1 hts gX8_takeKick_X8_one rfl rfl rfl hdX8_one ⟨Nat.le_of_ble_eq_true rfl, Nat.le_of_ble_eq_true rfl⟩) hK hN hX hP (dF hD rfl) hS hA [] mcN (by decide +kernel) [(qt, .inr (8, [.ref qt_w, .ref qt_isKept, .ref qt_value, .ref qt_weight, .ref qt_newTube, .ref qt_newPrice, .ref qt_newLow, .ref qt_newHigh, .ref qt_newGoods, .ref qt_rhythm, .ref qt_rhythmLong, .ref qt_slug, .int it_kinds, .int it_columns, .int it_slugs, .int it_newKinds, .int it_newColumns, .int it_newSlugs, .int it_rhythmTold, .ref qt_text, .int it_textSize, .int it_at, .int it_first, .int it_length, .int it_faultOf, .int it_fault, .ref qt_of, .ref qt_buyerColumn, .ref qt_buyerKind, .ref qt_buyerCoins, .int it_buyerMany, .ref qt_tryRow, .ref qt_tryLong, .ref qt_tryFree, .int it_tryMany])), (qt_text, .inl (cI, 400, .inl ft_text)), (qt_rhythm, .inl (cI, 10, .inl ft_rhythm)), (qt_rhythmLong, .inl (cI, 10, .inl ft_rhythmLong))] [0, 1, 2, 3] mcN ((mcC rfl (mcC rfl (mcC rfl (mcC rfl mcN)))).trans (mcC rfl (mcC rfl (mcC rfl (mcC rfl mcN)))).symm) 4 rfl (by decide +kernel) rfl hl.1 rfl (Nat.le_of_ble_eq_true rfl) ⟨Nat.zero_le _, Nat.zero_le _⟩ dX8_takeKick_138 (fun H locs hP hS => ?_)
          refine lv_iload_n hx hb dX8_takeKick_141 rfl (lv_at hl 3 rfl) ?_
          refine lv_ishl hx hb dX8_takeKick_142 ?_
          refine lv_ior hx hb dX8_takeKick_143 ?_
          refine lv_topi (fun n10 en10 => ?_)
          replace h := lt_at en10 h
          refine lv_istore_n (lv' := [(2, .int n10), (0, .ref qt), (1, .int x1), (3, .int x3)]) hx hb dX8_takeKick_144 rfl hl (by decide) rfl (fun ls hl => ?_)
          obtain ⟨n11, en11⟩ : ∃ z : Int32, z = x3 + 1 := ⟨_, rfl⟩
          replace h := lt_at en11 h
          refine lv_iinc (v := n11) (lv' := [(3, .int n11), (2, .int n10), (0, .ref qt), (1, .int x1)]) hx hb dX8_takeKick_145 hl (k := 3) rfl (by rw [en11]; rfl) (by decide) rfl (fun ls hl => ?_)
          refine lv_goto (tgt := 108) hx hb dX8_takeKick_148 (by decide) ?_
          exact ih x1 n10 n11 it_rhythmTold it_at it_first it_length it_faultOf it_fault ft_rhythm ft_rhythmLong _ _ _ o h hP hS (lv_sub hl [2, 3, 1, 0] rfl) K
  unfold fX8_takeKick at h
  refine lv_aload_n hx hb dX8_takeKick_0 rfl (lv_at hl 0 rfl) ?_
  refine lv_iconst (v := 0) hx hb dX8_takeKick_1 (by decide) ?_
  refine lv_aload_n hx hb dX8_takeKick_2 rfl (lv_at hl 0 rfl) ?_
  refine va_get (ci := 8) (v := .int it_newColumns) (C := RX8) (T := TX8) (N := 35) hx hb hts hiX8 hown hK hP 0 rfl rfl 16 (by decide) fl124 (fun _ h9 => h9) rfl dX8_takeKick_3 ?_
  refine lv_iconst (v := 1) hx hb dX8_takeKick_6 (by decide) ?_
  refine lv_isub hx hb dX8_takeKick_7 ?_
  replace h := bd_el h
  obtain ⟨⟨r12, g13, g14, g15, g16⟩, hc17, h⟩ := h
  refine callVI (rest := []) ⟨hx, hb, hml, hown, hts⟩ (ctX8_takeNumber l D cI cZ cB cS kK kV _ qt qt_w qt_isKept qt_value qt_weight qt_newTube qt_newPrice qt_newLow qt_newHigh qt_newGoods qt_rhythm qt_rhythmLong qt_slug qt_text qt_of qt_buyerColumn qt_buyerKind qt_buyerCoins qt_tryRow qt_tryLong qt_tryFree it_kinds it_columns it_slugs it_newKinds it_newColumns it_newSlugs it_rhythmTold it_textSize it_at it_first it_length it_faultOf it_fault it_buyerMany it_tryMany ft_text 0 (it_newColumns - 1) N r12 g13 g14 g15 g16 hc17) (cwV 2 hts gX8_takeKick_X8_takeNumber rfl rfl rfl hdX8_takeNumber ⟨Nat.le_of_ble_eq_true rfl, Nat.le_of_ble_eq_true rfl⟩) hK hN hX hP (dF hD rfl) hS hA [0, 1] (mcC rfl (mcC rfl mcN)) (by decide +kernel) [(qt, .inr (8, [.ref qt_w, .ref qt_isKept, .ref qt_value, .ref qt_weight, .ref qt_newTube, .ref qt_newPrice, .ref qt_newLow, .ref qt_newHigh, .ref qt_newGoods, .ref qt_rhythm, .ref qt_rhythmLong, .ref qt_slug, .int it_kinds, .int it_columns, .int it_slugs, .int it_newKinds, .int it_newColumns, .int it_newSlugs, .int it_rhythmTold, .ref qt_text, .int it_textSize, .int g13, .int g14, .int it_length, .int g15, .int g16, .ref qt_of, .ref qt_buyerColumn, .ref qt_buyerKind, .ref qt_buyerCoins, .int it_buyerMany, .ref qt_tryRow, .ref qt_tryLong, .ref qt_tryFree, .int it_tryMany])), (qt_text, .inl (cI, 400, .inl ft_text)), (qt_rhythm, .inl (cI, 10, .inl ft_rhythm)), (qt_rhythmLong, .inl (cI, 10, .inl ft_rhythmLong))] [2, 3] (mcC rfl (mcC rfl mcN)) ((mcC rfl (mcC rfl mcN)).trans (mcC rfl (mcC rfl mcN)).symm) 4 rfl (by decide +kernel) (va_recv hK hP (ci := 8) (q0 := 0) rfl rfl) rfl hl.1 rfl (Nat.le_of_ble_eq_true rfl) ⟨Nat.zero_le _, Nat.zero_le _⟩ dX8_takeKick_8 (fun H locs hP hS => ?_)
  refine lv_istore_n (lv' := [(1, .int r12), (0, .ref qt)]) hx hb dX8_takeKick_11 rfl hl (by decide) rfl (fun ls hl => ?_)
  refine lv_aload_n hx hb dX8_takeKick_12 rfl (lv_at hl 1 rfl) ?_
  refine va_get (ci := 8) (v := .int g15) (C := RX8) (T := TX8) (N := 35) hx hb hts hiX8 hown hK hP 0 rfl rfl 24 (by decide) fl91 (fun _ h9 => h9) rfl dX8_takeKick_13 ?_
  refine lv_if_gt (tgt := 47) hx hb dX8_takeKick_16 (by decide) (fun c18 => ?_) (fun c18 => ?_)
  · replace h := if_t c18 h
    simp only [Option.some.injEq, Prod.mk.injEq] at h
    obtain ⟨rfl, rfl, rfl, rfl, rfl, rfl, rfl, rfl⟩ := h
    exact hret _ _ _ _ hP hS dX8_takeKick_47
  · replace h := if_f c18 h
    refine lv_aload_n hx hb dX8_takeKick_19 rfl (lv_at hl 1 rfl) ?_
    refine lv_aload_n hx hb dX8_takeKick_20 rfl (lv_at hl 1 rfl) ?_
    refine va_get (ci := 8) (v := .int it_rhythmTold) (C := RX8) (T := TX8) (N := 35) hx hb hts hiX8 hown hK hP 0 rfl rfl 18 (by decide) fl127 (fun _ h9 => h9) rfl dX8_takeKick_21 ?_
    refine lv_iload_n hx hb dX8_takeKick_24 rfl (lv_at hl 0 rfl) ?_
    replace h := bd_el h
    obtain ⟨r19, hc20, h⟩ := h
    refine callSI (rest := [.ref qt]) ⟨hx, hb, hml, hown, hts⟩ (ctX8_has l D cI cZ cB cS kK kV _ it_rhythmTold r12 N r19 hc20) (va_cwS 2 hts gX8_takeKick_X8_has rfl rfl rfl hdX8_has ⟨Nat.le_of_ble_eq_true rfl, Nat.le_of_ble_eq_true rfl⟩) hK hN hX hP (dF hD rfl) hS hA [] mcN (by decide +kernel) [(qt, .inr (8, [.ref qt_w, .ref qt_isKept, .ref qt_value, .ref qt_weight, .ref qt_newTube, .ref qt_newPrice, .ref qt_newLow, .ref qt_newHigh, .ref qt_newGoods, .ref qt_rhythm, .ref qt_rhythmLong, .ref qt_slug, .int it_kinds, .int it_columns, .int it_slugs, .int it_newKinds, .int it_newColumns, .int it_newSlugs, .int it_rhythmTold, .ref qt_text, .int it_textSize, .int g13, .int g14, .int it_length, .int g15, .int g16, .ref qt_of, .ref qt_buyerColumn, .ref qt_buyerKind, .ref qt_buyerCoins, .int it_buyerMany, .ref qt_tryRow, .ref qt_tryLong, .ref qt_tryFree, .int it_tryMany])), (qt_text, .inl (cI, 400, .inl ft_text)), (qt_rhythm, .inl (cI, 10, .inl ft_rhythm)), (qt_rhythmLong, .inl (cI, 10, .inl ft_rhythmLong))] [0, 1, 2, 3] mcN ((mcC rfl (mcC rfl (mcC rfl (mcC rfl mcN)))).trans (mcC rfl (mcC rfl (mcC rfl (mcC rfl mcN)))).symm) 4 rfl (by decide +kernel) rfl hl.1 rfl (Nat.le_of_ble_eq_true rfl) ⟨Nat.zero_le _, Nat.zero_le _⟩ dX8_takeKick_25 (fun H locs hP hS => ?_)
    refine lv_if_ne (tgt := 35) hx hb dX8_takeKick_28 (by decide) (fun c21 => ?_) (fun c21 => ?_)
    · replace h := if_f c21 h
      refine lv_iconst (v := 0) hx hb dX8_takeKick_35 (by decide) ?_
      refine lv_iconst (v := 4) hx hb dX8_takeKick_36 (by decide) ?_
      refine lv_aload_n hx hb dX8_takeKick_37 rfl (lv_at hl 1 rfl) ?_
      refine va_get (ci := 8) (v := .int g14) (C := RX8) (T := TX8) (N := 35) hx hb hts hiX8 hown hK hP 0 rfl rfl 22 (by decide) fl98 (fun _ h9 => h9) rfl dX8_takeKick_38 ?_
      replace h := bd_el h
      obtain ⟨⟨r22, g23, g24⟩, hc25, h⟩ := h
      refine callVI (rest := []) ⟨hx, hb, hml, hown, hts⟩ (ctX8_want l D cI cZ cB cS kK kV _ qt qt_w qt_isKept qt_value qt_weight qt_newTube qt_newPrice qt_newLow qt_newHigh qt_newGoods qt_rhythm qt_rhythmLong qt_slug qt_text qt_of qt_buyerColumn qt_buyerKind qt_buyerCoins qt_tryRow qt_tryLong qt_tryFree it_kinds it_columns it_slugs it_newKinds it_newColumns it_newSlugs it_rhythmTold it_textSize g13 g14 it_length g15 g16 it_buyerMany it_tryMany 0 4 g14 N r22 g23 g24 hc25) (cwV 3 hts gX8_takeKick_X8_want rfl rfl rfl hdX8_want ⟨Nat.le_of_ble_eq_true rfl, Nat.le_of_ble_eq_true rfl⟩) hK hN hX hP (dF hD rfl) hS hA [0] (mcC rfl mcN) (by decide +kernel) [(qt, .inr (8, [.ref qt_w, .ref qt_isKept, .ref qt_value, .ref qt_weight, .ref qt_newTube, .ref qt_newPrice, .ref qt_newLow, .ref qt_newHigh, .ref qt_newGoods, .ref qt_rhythm, .ref qt_rhythmLong, .ref qt_slug, .int it_kinds, .int it_columns, .int it_slugs, .int it_newKinds, .int it_newColumns, .int it_newSlugs, .int it_rhythmTold, .ref qt_text, .int it_textSize, .int g13, .int g14, .int it_length, .int g23, .int g24, .ref qt_of, .ref qt_buyerColumn, .ref qt_buyerKind, .ref qt_buyerCoins, .int it_buyerMany, .ref qt_tryRow, .ref qt_tryLong, .ref qt_tryFree, .int it_tryMany])), (qt_text, .inl (cI, 400, .inl ft_text)), (qt_rhythm, .inl (cI, 10, .inl ft_rhythm)), (qt_rhythmLong, .inl (cI, 10, .inl ft_rhythmLong))] [1, 2, 3] (mcC rfl mcN) ((mcC rfl (mcC rfl (mcC rfl mcN))).trans (mcC rfl (mcC rfl (mcC rfl mcN))).symm) 4 rfl (by decide +kernel) (va_recv hK hP (ci := 8) (q0 := 0) rfl rfl) rfl hl.1 rfl (Nat.le_of_ble_eq_true rfl) ⟨Nat.zero_le _, Nat.zero_le _⟩ dX8_takeKick_41 (fun H locs hP hS => ?_)
      refine lv_if_ne (tgt := 48) hx hb dX8_takeKick_44 (by decide) (fun c26 => ?_) (fun c26 => ?_)
      · replace h := if_f c26 h
        refine lv_aload_n hx hb dX8_takeKick_48 rfl (lv_at hl 1 rfl) ?_
        refine lv_dup hx hb dX8_takeKick_49 rfl ?_
        refine va_get (ci := 8) (v := .int it_rhythmTold) (C := RX8) (T := TX8) (N := 35) hx hb hts hiX8 hown hK hP 0 rfl rfl 18 (by decide) fl127 (fun _ h9 => h9) rfl dX8_takeKick_50 ?_
        refine lv_iconst (v := 1) hx hb dX8_takeKick_53 (by decide) ?_
        refine lv_iload_n hx hb dX8_takeKick_54 rfl (lv_at hl 0 rfl) ?_
        refine lv_ishl hx hb dX8_takeKick_55 ?_
        refine lv_ior hx hb dX8_takeKick_56 ?_
        refine lv_topi (fun n27 en27 => ?_)
        replace h := lt_at en27 h
        refine va_put (ci := 8) (v := .int n27) (ty := .int) (C := RX8) (T := TX8) (N := 35) hx hb hts hiX8 tyX8 tyX8_ok nmX8 hown hK hP (dF hD rfl) hS 0 rfl rfl 18 (by decide) fl127 (fun _ h9 => h9) rfl (by decide +kernel) rfl rfl (Nat.le_of_ble_eq_true rfl) dX8_takeKick_57 (fun H locs hP _ hS => ?_)
        replace hP : va_P D vwCl [(qt, .inr (8, [.ref qt_w, .ref qt_isKept, .ref qt_value, .ref qt_weight, .ref qt_newTube, .ref qt_newPrice, .ref qt_newLow, .ref qt_newHigh, .ref qt_newGoods, .ref qt_rhythm, .ref qt_rhythmLong, .ref qt_slug, .int it_kinds, .int it_columns, .int it_slugs, .int it_newKinds, .int it_newColumns, .int it_newSlugs, .int n27, .ref qt_text, .int it_textSize, .int g13, .int g14, .int it_length, .int g23, .int g24, .ref qt_of, .ref qt_buyerColumn, .ref qt_buyerKind, .ref qt_buyerCoins, .int it_buyerMany, .ref qt_tryRow, .ref qt_tryLong, .ref qt_tryFree, .int it_tryMany])), (qt_text, .inl (cI, 400, .inl ft_text)), (qt_rhythm, .inl (cI, 10, .inl ft_rhythm)), (qt_rhythmLong, .inl (cI, 10, .inl ft_rhythmLong))] H := hP
        refine lv_aload_n hx hb dX8_takeKick_60 rfl (lv_at hl 1 rfl) ?_
        replace h := bd_el h
        obtain ⟨⟨g28, g29, g30⟩, hc31, h⟩ := h
        refine callVV (rest := []) ⟨hx, hb, hml, hown, hts⟩ (ctX8_takeWord l D cI cZ cB cS kK kV _ qt qt_w qt_isKept qt_value qt_weight qt_newTube qt_newPrice qt_newLow qt_newHigh qt_newGoods qt_rhythm qt_rhythmLong qt_slug qt_text qt_of qt_buyerColumn qt_buyerKind qt_buyerCoins qt_tryRow qt_tryLong qt_tryFree it_kinds it_columns it_slugs it_newKinds it_newColumns it_newSlugs n27 it_textSize g13 g14 it_length g23 g24 it_buyerMany it_tryMany ft_text N g28 g29 g30 hc31) (cwV 0 hts gX8_takeKick_X8_takeWord rfl rfl rfl hdX8_takeWord ⟨Nat.le_of_ble_eq_true rfl, Nat.le_of_ble_eq_true rfl⟩) hK hN hX hP (dF hD rfl) hS hA [0, 1] (mcC rfl (mcC rfl mcN)) (by decide +kernel) [(qt, .inr (8, [.ref qt_w, .ref qt_isKept, .ref qt_value, .ref qt_weight, .ref qt_newTube, .ref qt_newPrice, .ref qt_newLow, .ref qt_newHigh, .ref qt_newGoods, .ref qt_rhythm, .ref qt_rhythmLong, .ref qt_slug, .int it_kinds, .int it_columns, .int it_slugs, .int it_newKinds, .int it_newColumns, .int it_newSlugs, .int n27, .ref qt_text, .int it_textSize, .int g28, .int g29, .int g30, .int g23, .int g24, .ref qt_of, .ref qt_buyerColumn, .ref qt_buyerKind, .ref qt_buyerCoins, .int it_buyerMany, .ref qt_tryRow, .ref qt_tryLong, .ref qt_tryFree, .int it_tryMany])), (qt_text, .inl (cI, 400, .inl ft_text)), (qt_rhythm, .inl (cI, 10, .inl ft_rhythm)), (qt_rhythmLong, .inl (cI, 10, .inl ft_rhythmLong))] [2, 3] (mcC rfl (mcC rfl mcN)) ((mcC rfl (mcC rfl mcN)).trans (mcC rfl (mcC rfl mcN)).symm) 4 rfl (by decide +kernel) (va_recv hK hP (ci := 8) (q0 := 0) rfl rfl) rfl hl.1 rfl (Nat.le_of_ble_eq_true rfl) ⟨Nat.zero_le _, Nat.zero_le _⟩ dX8_takeKick_61 (fun H locs hP hS => ?_)
        refine lv_aload_n hx hb dX8_takeKick_64 rfl (lv_at hl 1 rfl) ?_
        refine lv_aload_n hx hb dX8_takeKick_65 rfl (lv_at hl 1 rfl) ?_
        refine va_get (ci := 8) (v := .int g30) (C := RX8) (T := TX8) (N := 35) hx hb hts hiX8 hown hK hP 0 rfl rfl 23 (by decide) fl105 (fun _ h9 => h9) rfl dX8_takeKick_66 ?_
        refine lv_if_le (tgt := 76) hx hb dX8_takeKick_69 (by decide) (fun c32 => ?_) (fun c32 => ?_)
        · replace h := if_t c32 h
          refine lv_iconst (v := 0) hx hb dX8_takeKick_76 (by decide) ?_
          refine lv_iconst (v := 1) hx hb dX8_takeKick_77 (by decide) ?_
          refine lv_aload_n hx hb dX8_takeKick_78 rfl (lv_at hl 1 rfl) ?_
          refine va_get (ci := 8) (v := .int g29) (C := RX8) (T := TX8) (N := 35) hx hb hts hiX8 hown hK hP 0 rfl rfl 22 (by decide) fl98 (fun _ h9 => h9) rfl dX8_takeKick_79 ?_
          replace h := bd_el h
          obtain ⟨⟨r33, g34, g35⟩, hc36, h⟩ := h
          refine callVI (rest := []) ⟨hx, hb, hml, hown, hts⟩ (ctX8_want l D cI cZ cB cS kK kV _ qt qt_w qt_isKept qt_value qt_weight qt_newTube qt_newPrice qt_newLow qt_newHigh qt_newGoods qt_rhythm qt_rhythmLong qt_slug qt_text qt_of qt_buyerColumn qt_buyerKind qt_buyerCoins qt_tryRow qt_tryLong qt_tryFree it_kinds it_columns it_slugs it_newKinds it_newColumns it_newSlugs n27 it_textSize g28 g29 g30 g23 g24 it_buyerMany it_tryMany 0 1 g29 N r33 g34 g35 hc36) (cwV 3 hts gX8_takeKick_X8_want rfl rfl rfl hdX8_want ⟨Nat.le_of_ble_eq_true rfl, Nat.le_of_ble_eq_true rfl⟩) hK hN hX hP (dF hD rfl) hS hA [0] (mcC rfl mcN) (by decide +kernel) [(qt, .inr (8, [.ref qt_w, .ref qt_isKept, .ref qt_value, .ref qt_weight, .ref qt_newTube, .ref qt_newPrice, .ref qt_newLow, .ref qt_newHigh, .ref qt_newGoods, .ref qt_rhythm, .ref qt_rhythmLong, .ref qt_slug, .int it_kinds, .int it_columns, .int it_slugs, .int it_newKinds, .int it_newColumns, .int it_newSlugs, .int n27, .ref qt_text, .int it_textSize, .int g28, .int g29, .int g30, .int g34, .int g35, .ref qt_of, .ref qt_buyerColumn, .ref qt_buyerKind, .ref qt_buyerCoins, .int it_buyerMany, .ref qt_tryRow, .ref qt_tryLong, .ref qt_tryFree, .int it_tryMany])), (qt_text, .inl (cI, 400, .inl ft_text)), (qt_rhythm, .inl (cI, 10, .inl ft_rhythm)), (qt_rhythmLong, .inl (cI, 10, .inl ft_rhythmLong))] [1, 2, 3] (mcC rfl mcN) ((mcC rfl (mcC rfl (mcC rfl mcN))).trans (mcC rfl (mcC rfl (mcC rfl mcN))).symm) 4 rfl (by decide +kernel) (va_recv hK hP (ci := 8) (q0 := 0) rfl rfl) rfl hl.1 rfl (Nat.le_of_ble_eq_true rfl) ⟨Nat.zero_le _, Nat.zero_le _⟩ dX8_takeKick_82 (fun H locs hP hS => ?_)
          refine lv_if_eq (tgt := 172) hx hb dX8_takeKick_85 (by decide) (fun c37 => ?_) (fun c37 => ?_)
          · replace h := if_t c37 h
            simp only [Option.some.injEq, Prod.mk.injEq] at h
            obtain ⟨rfl, rfl, rfl, rfl, rfl, rfl, rfl, rfl⟩ := h
            exact hret _ _ _ _ hP hS dX8_takeKick_172
          · replace h := if_f c37 h
            refine lv_aload_n hx hb dX8_takeKick_88 rfl (lv_at hl 1 rfl) ?_
            refine lv_aload_n hx hb dX8_takeKick_89 rfl (lv_at hl 1 rfl) ?_
            replace h := bd_el h
            obtain ⟨r38, hc39, h⟩ := h
            refine callVI (rest := [.ref qt]) ⟨hx, hb, hml, hown, hts⟩ (ctX8_isRow l D cI cZ cB cS kK kV _ qt qt_w qt_isKept qt_value qt_weight qt_newTube qt_newPrice qt_newLow qt_newHigh qt_newGoods qt_rhythm qt_rhythmLong qt_slug qt_text qt_of qt_buyerColumn qt_buyerKind qt_buyerCoins qt_tryRow qt_tryLong qt_tryFree it_kinds it_columns it_slugs it_newKinds it_newColumns it_newSlugs n27 it_textSize g28 g29 g30 g34 g35 it_buyerMany it_tryMany ft_text N r38 hc39) (cwV 0 hts gX8_takeKick_X8_isRow rfl rfl rfl hdX8_isRow ⟨Nat.le_of_ble_eq_true rfl, Nat.le_of_ble_eq_true rfl⟩) hK hN hX hP (dF hD rfl) hS hA [0, 1] (mcC rfl (mcC rfl mcN)) (by decide +kernel) [(qt, .inr (8, [.ref qt_w, .ref qt_isKept, .ref qt_value, .ref qt_weight, .ref qt_newTube, .ref qt_newPrice, .ref qt_newLow, .ref qt_newHigh, .ref qt_newGoods, .ref qt_rhythm, .ref qt_rhythmLong, .ref qt_slug, .int it_kinds, .int it_columns, .int it_slugs, .int it_newKinds, .int it_newColumns, .int it_newSlugs, .int n27, .ref qt_text, .int it_textSize, .int g28, .int g29, .int g30, .int g34, .int g35, .ref qt_of, .ref qt_buyerColumn, .ref qt_buyerKind, .ref qt_buyerCoins, .int it_buyerMany, .ref qt_tryRow, .ref qt_tryLong, .ref qt_tryFree, .int it_tryMany])), (qt_text, .inl (cI, 400, .inl ft_text)), (qt_rhythm, .inl (cI, 10, .inl ft_rhythm)), (qt_rhythmLong, .inl (cI, 10, .inl ft_rhythmLong))] [2, 3] (mcC rfl (mcC rfl mcN)) ((mcC rfl (mcC rfl mcN)).trans (mcC rfl (mcC rfl mcN)).symm) 4 rfl (by decide +kernel) (va_recv hK hP (ci := 8) (q0 := 0) rfl rfl) rfl hl.1 rfl (Nat.le_of_ble_eq_true rfl) ⟨Nat.zero_le _, Nat.zero_le _⟩ dX8_takeKick_90 (fun H locs hP hS => ?_)
            refine lv_iconst (v := 4) hx hb dX8_takeKick_93 (by decide) ?_
            refine lv_aload_n hx hb dX8_takeKick_94 rfl (lv_at hl 1 rfl) ?_
            refine va_get (ci := 8) (v := .int g29) (C := RX8) (T := TX8) (N := 35) hx hb hts hiX8 hown hK hP 0 rfl rfl 22 (by decide) fl98 (fun _ h9 => h9) rfl dX8_takeKick_95 ?_
            replace h := bd_el h
            obtain ⟨⟨r40, g41, g42⟩, hc43, h⟩ := h
            refine callVI (rest := []) ⟨hx, hb, hml, hown, hts⟩ (ctX8_want l D cI cZ cB cS kK kV _ qt qt_w qt_isKept qt_value qt_weight qt_newTube qt_newPrice qt_newLow qt_newHigh qt_newGoods qt_rhythm qt_rhythmLong qt_slug qt_text qt_of qt_buyerColumn qt_buyerKind qt_buyerCoins qt_tryRow qt_tryLong qt_tryFree it_kinds it_columns it_slugs it_newKinds it_newColumns it_newSlugs n27 it_textSize g28 g29 g30 g34 g35 it_buyerMany it_tryMany r38 4 g29 N r40 g41 g42 hc43) (cwV 3 hts gX8_takeKick_X8_want rfl rfl rfl hdX8_want ⟨Nat.le_of_ble_eq_true rfl, Nat.le_of_ble_eq_true rfl⟩) hK hN hX hP (dF hD rfl) hS hA [0] (mcC rfl mcN) (by decide +kernel) [(qt, .inr (8, [.ref qt_w, .ref qt_isKept, .ref qt_value, .ref qt_weight, .ref qt_newTube, .ref qt_newPrice, .ref qt_newLow, .ref qt_newHigh, .ref qt_newGoods, .ref qt_rhythm, .ref qt_rhythmLong, .ref qt_slug, .int it_kinds, .int it_columns, .int it_slugs, .int it_newKinds, .int it_newColumns, .int it_newSlugs, .int n27, .ref qt_text, .int it_textSize, .int g28, .int g29, .int g30, .int g41, .int g42, .ref qt_of, .ref qt_buyerColumn, .ref qt_buyerKind, .ref qt_buyerCoins, .int it_buyerMany, .ref qt_tryRow, .ref qt_tryLong, .ref qt_tryFree, .int it_tryMany])), (qt_text, .inl (cI, 400, .inl ft_text)), (qt_rhythm, .inl (cI, 10, .inl ft_rhythm)), (qt_rhythmLong, .inl (cI, 10, .inl ft_rhythmLong))] [1, 2, 3] (mcC rfl mcN) ((mcC rfl (mcC rfl (mcC rfl mcN))).trans (mcC rfl (mcC rfl (mcC rfl mcN))).symm) 4 rfl (by decide +kernel) (va_recv hK hP (ci := 8) (q0 := 0) rfl rfl) rfl hl.1 rfl (Nat.le_of_ble_eq_true rfl) ⟨Nat.zero_le _, Nat.zero_le _⟩ dX8_takeKick_98 (fun H locs hP hS => ?_)
            refine lv_if_eq (tgt := 172) hx hb dX8_takeKick_101 (by decide) (fun c44 => ?_) (fun c44 => ?_)
            · replace h := if_t c44 h
              simp only [Option.some.injEq, Prod.mk.injEq] at h
              obtain ⟨rfl, rfl, rfl, rfl, rfl, rfl, rfl, rfl⟩ := h
              exact hret _ _ _ _ hP hS dX8_takeKick_172
            · replace h := if_f c44 h
              refine lv_iconst (v := 0) hx hb dX8_takeKick_104 (by decide) ?_
              refine lv_istore_n (lv' := [(2, .int 0), (1, .int r12), (0, .ref qt)]) hx hb dX8_takeKick_105 rfl hl (by decide) rfl (fun ls hl => ?_)
              refine lv_iconst (v := 0) hx hb dX8_takeKick_106 (by decide) ?_
              refine lv_istore_n (lv' := [(3, .int 0), (2, .int 0), (1, .int r12), (0, .ref qt)]) hx hb dX8_takeKick_107 rfl hl (by decide) rfl (fun ls hl => ?_)
              replace h := bd_el h
              obtain ⟨o45, ho45, h⟩ := h
              refine lp108 N r12 0 0 n27 g28 g29 g30 g41 g42 ft_rhythm ft_rhythmLong _ _ _ o45 ho45 hP hS (lv_sub hl [3, 2, 1, 0] rfl) (fun n46 eo H locs ls hP hS hl => ?_)
              subst eo
              refine lv_aload_n hx hb dX8_takeKick_151 rfl (lv_at hl 0 rfl) ?_
              refine va_get (ci := 8) (v := .ref qt_rhythm) (C := RX8) (T := TX8) (N := 35) hx hb hts hiX8 hown hK hP 0 rfl rfl 9 (by decide) fl38 (fun _ h9 => h9) rfl dX8_takeKick_152 ?_
              refine lv_iconst (v := 5) hx hb dX8_takeKick_155 (by decide) ?_
              refine lv_iload_n hx hb dX8_takeKick_156 rfl (lv_at hl 1 rfl) ?_
              refine lv_iadd hx hb dX8_takeKick_157 ?_
              refine lv_iload_n hx hb dX8_takeKick_158 rfl (lv_at hl 2 rfl) ?_
              replace h := ck_el h
              obtain ⟨hi47, h⟩ := h
              refine va_iast hx hb hK hP (dF hD rfl) hS 2 0 rfl rfl hi47 dX8_takeKick_159 (fun H locs hP _ hS => ?_)
              replace hP : va_P D vwCl [(qt, .inr (8, [.ref qt_w, .ref qt_isKept, .ref qt_value, .ref qt_weight, .ref qt_newTube, .ref qt_newPrice, .ref qt_newLow, .ref qt_newHigh, .ref qt_newGoods, .ref qt_rhythm, .ref qt_rhythmLong, .ref qt_slug, .int it_kinds, .int it_columns, .int it_slugs, .int it_newKinds, .int it_newColumns, .int it_newSlugs, .int n27, .ref qt_text, .int it_textSize, .int g28, .int g29, .int g30, .int g41, .int g42, .ref qt_of, .ref qt_buyerColumn, .ref qt_buyerKind, .ref qt_buyerCoins, .int it_buyerMany, .ref qt_tryRow, .ref qt_tryLong, .ref qt_tryFree, .int it_tryMany])), (qt_text, .inl (cI, 400, .inl ft_text)), (qt_rhythm, .inl (cI, 10, .inl (upd ft_rhythm (Int32.toNatClampNeg (5 + r12)) n46))), (qt_rhythmLong, .inl (cI, 10, .inl ft_rhythmLong))] H := hP
              refine lv_aload_n hx hb dX8_takeKick_160 rfl (lv_at hl 0 rfl) ?_
              refine va_get (ci := 8) (v := .ref qt_rhythmLong) (C := RX8) (T := TX8) (N := 35) hx hb hts hiX8 hown hK hP 0 rfl rfl 10 (by decide) fl41 (fun _ h9 => h9) rfl dX8_takeKick_161 ?_
              refine lv_iconst (v := 5) hx hb dX8_takeKick_164 (by decide) ?_
              refine lv_iload_n hx hb dX8_takeKick_165 rfl (lv_at hl 1 rfl) ?_
              refine lv_iadd hx hb dX8_takeKick_166 ?_
              refine lv_aload_n hx hb dX8_takeKick_167 rfl (lv_at hl 0 rfl) ?_
              refine va_get (ci := 8) (v := .int g30) (C := RX8) (T := TX8) (N := 35) hx hb hts hiX8 hown hK hP 0 rfl rfl 23 (by decide) fl105 (fun _ h9 => h9) rfl dX8_takeKick_168 ?_
              refine va_iast hx hb hK hP (dF hD rfl) hS 3 0 rfl rfl hi47 dX8_takeKick_171 (fun H locs hP _ hS => ?_)
              replace hP : va_P D vwCl [(qt, .inr (8, [.ref qt_w, .ref qt_isKept, .ref qt_value, .ref qt_weight, .ref qt_newTube, .ref qt_newPrice, .ref qt_newLow, .ref qt_newHigh, .ref qt_newGoods, .ref qt_rhythm, .ref qt_rhythmLong, .ref qt_slug, .int it_kinds, .int it_columns, .int it_slugs, .int it_newKinds, .int it_newColumns, .int it_newSlugs, .int n27, .ref qt_text, .int it_textSize, .int g28, .int g29, .int g30, .int g41, .int g42, .ref qt_of, .ref qt_buyerColumn, .ref qt_buyerKind, .ref qt_buyerCoins, .int it_buyerMany, .ref qt_tryRow, .ref qt_tryLong, .ref qt_tryFree, .int it_tryMany])), (qt_text, .inl (cI, 400, .inl ft_text)), (qt_rhythm, .inl (cI, 10, .inl (upd ft_rhythm (Int32.toNatClampNeg (5 + r12)) n46))), (qt_rhythmLong, .inl (cI, 10, .inl (upd ft_rhythmLong (Int32.toNatClampNeg (5 + r12)) g30)))] H := hP
              simp only [Option.some.injEq, Prod.mk.injEq] at h
              obtain ⟨rfl, rfl, rfl, rfl, rfl, rfl, rfl, rfl⟩ := h
              exact hret _ _ _ _ hP hS dX8_takeKick_172
        · replace h := if_f c32 h
          refine lv_iconst (v := 1) hx hb dX8_takeKick_72 (by decide) ?_
          refine lv_goto (tgt := 77) hx hb dX8_takeKick_73 (by decide) ?_
          refine lv_iconst (v := 1) hx hb dX8_takeKick_77 (by decide) ?_
          refine lv_aload_n hx hb dX8_takeKick_78 rfl (lv_at hl 1 rfl) ?_
          refine va_get (ci := 8) (v := .int g29) (C := RX8) (T := TX8) (N := 35) hx hb hts hiX8 hown hK hP 0 rfl rfl 22 (by decide) fl98 (fun _ h9 => h9) rfl dX8_takeKick_79 ?_
          replace h := bd_el h
          obtain ⟨⟨r48, g49, g50⟩, hc51, h⟩ := h
          refine callVI (rest := []) ⟨hx, hb, hml, hown, hts⟩ (ctX8_want l D cI cZ cB cS kK kV _ qt qt_w qt_isKept qt_value qt_weight qt_newTube qt_newPrice qt_newLow qt_newHigh qt_newGoods qt_rhythm qt_rhythmLong qt_slug qt_text qt_of qt_buyerColumn qt_buyerKind qt_buyerCoins qt_tryRow qt_tryLong qt_tryFree it_kinds it_columns it_slugs it_newKinds it_newColumns it_newSlugs n27 it_textSize g28 g29 g30 g23 g24 it_buyerMany it_tryMany 1 1 g29 N r48 g49 g50 hc51) (cwV 3 hts gX8_takeKick_X8_want rfl rfl rfl hdX8_want ⟨Nat.le_of_ble_eq_true rfl, Nat.le_of_ble_eq_true rfl⟩) hK hN hX hP (dF hD rfl) hS hA [0] (mcC rfl mcN) (by decide +kernel) [(qt, .inr (8, [.ref qt_w, .ref qt_isKept, .ref qt_value, .ref qt_weight, .ref qt_newTube, .ref qt_newPrice, .ref qt_newLow, .ref qt_newHigh, .ref qt_newGoods, .ref qt_rhythm, .ref qt_rhythmLong, .ref qt_slug, .int it_kinds, .int it_columns, .int it_slugs, .int it_newKinds, .int it_newColumns, .int it_newSlugs, .int n27, .ref qt_text, .int it_textSize, .int g28, .int g29, .int g30, .int g49, .int g50, .ref qt_of, .ref qt_buyerColumn, .ref qt_buyerKind, .ref qt_buyerCoins, .int it_buyerMany, .ref qt_tryRow, .ref qt_tryLong, .ref qt_tryFree, .int it_tryMany])), (qt_text, .inl (cI, 400, .inl ft_text)), (qt_rhythm, .inl (cI, 10, .inl ft_rhythm)), (qt_rhythmLong, .inl (cI, 10, .inl ft_rhythmLong))] [1, 2, 3] (mcC rfl mcN) ((mcC rfl (mcC rfl (mcC rfl mcN))).trans (mcC rfl (mcC rfl (mcC rfl mcN))).symm) 4 rfl (by decide +kernel) (va_recv hK hP (ci := 8) (q0 := 0) rfl rfl) rfl hl.1 rfl (Nat.le_of_ble_eq_true rfl) ⟨Nat.zero_le _, Nat.zero_le _⟩ dX8_takeKick_82 (fun H locs hP hS => ?_)
          refine lv_if_eq (tgt := 172) hx hb dX8_takeKick_85 (by decide) (fun c52 => ?_) (fun c52 => ?_)
          · replace h := if_t c52 h
            simp only [Option.some.injEq, Prod.mk.injEq] at h
            obtain ⟨rfl, rfl, rfl, rfl, rfl, rfl, rfl, rfl⟩ := h
            exact hret _ _ _ _ hP hS dX8_takeKick_172
          · replace h := if_f c52 h
            refine lv_aload_n hx hb dX8_takeKick_88 rfl (lv_at hl 1 rfl) ?_
            refine lv_aload_n hx hb dX8_takeKick_89 rfl (lv_at hl 1 rfl) ?_
            replace h := bd_el h
            obtain ⟨r53, hc54, h⟩ := h
            refine callVI (rest := [.ref qt]) ⟨hx, hb, hml, hown, hts⟩ (ctX8_isRow l D cI cZ cB cS kK kV _ qt qt_w qt_isKept qt_value qt_weight qt_newTube qt_newPrice qt_newLow qt_newHigh qt_newGoods qt_rhythm qt_rhythmLong qt_slug qt_text qt_of qt_buyerColumn qt_buyerKind qt_buyerCoins qt_tryRow qt_tryLong qt_tryFree it_kinds it_columns it_slugs it_newKinds it_newColumns it_newSlugs n27 it_textSize g28 g29 g30 g49 g50 it_buyerMany it_tryMany ft_text N r53 hc54) (cwV 0 hts gX8_takeKick_X8_isRow rfl rfl rfl hdX8_isRow ⟨Nat.le_of_ble_eq_true rfl, Nat.le_of_ble_eq_true rfl⟩) hK hN hX hP (dF hD rfl) hS hA [0, 1] (mcC rfl (mcC rfl mcN)) (by decide +kernel) [(qt, .inr (8, [.ref qt_w, .ref qt_isKept, .ref qt_value, .ref qt_weight, .ref qt_newTube, .ref qt_newPrice, .ref qt_newLow, .ref qt_newHigh, .ref qt_newGoods, .ref qt_rhythm, .ref qt_rhythmLong, .ref qt_slug, .int it_kinds, .int it_columns, .int it_slugs, .int it_newKinds, .int it_newColumns, .int it_newSlugs, .int n27, .ref qt_text, .int it_textSize, .int g28, .int g29, .int g30, .int g49, .int g50, .ref qt_of, .ref qt_buyerColumn, .ref qt_buyerKind, .ref qt_buyerCoins, .int it_buyerMany, .ref qt_tryRow, .ref qt_tryLong, .ref qt_tryFree, .int it_tryMany])), (qt_text, .inl (cI, 400, .inl ft_text)), (qt_rhythm, .inl (cI, 10, .inl ft_rhythm)), (qt_rhythmLong, .inl (cI, 10, .inl ft_rhythmLong))] [2, 3] (mcC rfl (mcC rfl mcN)) ((mcC rfl (mcC rfl mcN)).trans (mcC rfl (mcC rfl mcN)).symm) 4 rfl (by decide +kernel) (va_recv hK hP (ci := 8) (q0 := 0) rfl rfl) rfl hl.1 rfl (Nat.le_of_ble_eq_true rfl) ⟨Nat.zero_le _, Nat.zero_le _⟩ dX8_takeKick_90 (fun H locs hP hS => ?_)
            refine lv_iconst (v := 4) hx hb dX8_takeKick_93 (by decide) ?_
            refine lv_aload_n hx hb dX8_takeKick_94 rfl (lv_at hl 1 rfl) ?_
            refine va_get (ci := 8) (v := .int g29) (C := RX8) (T := TX8) (N := 35) hx hb hts hiX8 hown hK hP 0 rfl rfl 22 (by decide) fl98 (fun _ h9 => h9) rfl dX8_takeKick_95 ?_
            replace h := bd_el h
            obtain ⟨⟨r55, g56, g57⟩, hc58, h⟩ := h
            refine callVI (rest := []) ⟨hx, hb, hml, hown, hts⟩ (ctX8_want l D cI cZ cB cS kK kV _ qt qt_w qt_isKept qt_value qt_weight qt_newTube qt_newPrice qt_newLow qt_newHigh qt_newGoods qt_rhythm qt_rhythmLong qt_slug qt_text qt_of qt_buyerColumn qt_buyerKind qt_buyerCoins qt_tryRow qt_tryLong qt_tryFree it_kinds it_columns it_slugs it_newKinds it_newColumns it_newSlugs n27 it_textSize g28 g29 g30 g49 g50 it_buyerMany it_tryMany r53 4 g29 N r55 g56 g57 hc58) (cwV 3 hts gX8_takeKick_X8_want rfl rfl rfl hdX8_want ⟨Nat.le_of_ble_eq_true rfl, Nat.le_of_ble_eq_true rfl⟩) hK hN hX hP (dF hD rfl) hS hA [0] (mcC rfl mcN) (by decide +kernel) [(qt, .inr (8, [.ref qt_w, .ref qt_isKept, .ref qt_value, .ref qt_weight, .ref qt_newTube, .ref qt_newPrice, .ref qt_newLow, .ref qt_newHigh, .ref qt_newGoods, .ref qt_rhythm, .ref qt_rhythmLong, .ref qt_slug, .int it_kinds, .int it_columns, .int it_slugs, .int it_newKinds, .int it_newColumns, .int it_newSlugs, .int n27, .ref qt_text, .int it_textSize, .int g28, .int g29, .int g30, .int g56, .int g57, .ref qt_of, .ref qt_buyerColumn, .ref qt_buyerKind, .ref qt_buyerCoins, .int it_buyerMany, .ref qt_tryRow, .ref qt_tryLong, .ref qt_tryFree, .int it_tryMany])), (qt_text, .inl (cI, 400, .inl ft_text)), (qt_rhythm, .inl (cI, 10, .inl ft_rhythm)), (qt_rhythmLong, .inl (cI, 10, .inl ft_rhythmLong))] [1, 2, 3] (mcC rfl mcN) ((mcC rfl (mcC rfl (mcC rfl mcN))).trans (mcC rfl (mcC rfl (mcC rfl mcN))).symm) 4 rfl (by decide +kernel) (va_recv hK hP (ci := 8) (q0 := 0) rfl rfl) rfl hl.1 rfl (Nat.le_of_ble_eq_true rfl) ⟨Nat.zero_le _, Nat.zero_le _⟩ dX8_takeKick_98 (fun H locs hP hS => ?_)
            refine lv_if_eq (tgt := 172) hx hb dX8_takeKick_101 (by decide) (fun c59 => ?_) (fun c59 => ?_)
            · replace h := if_t c59 h
              simp only [Option.some.injEq, Prod.mk.injEq] at h
              obtain ⟨rfl, rfl, rfl, rfl, rfl, rfl, rfl, rfl⟩ := h
              exact hret _ _ _ _ hP hS dX8_takeKick_172
            · replace h := if_f c59 h
              refine lv_iconst (v := 0) hx hb dX8_takeKick_104 (by decide) ?_
              refine lv_istore_n (lv' := [(2, .int 0), (1, .int r12), (0, .ref qt)]) hx hb dX8_takeKick_105 rfl hl (by decide) rfl (fun ls hl => ?_)
              refine lv_iconst (v := 0) hx hb dX8_takeKick_106 (by decide) ?_
              refine lv_istore_n (lv' := [(3, .int 0), (2, .int 0), (1, .int r12), (0, .ref qt)]) hx hb dX8_takeKick_107 rfl hl (by decide) rfl (fun ls hl => ?_)
              replace h := bd_el h
              obtain ⟨o60, ho60, h⟩ := h
              refine lp108 N r12 0 0 n27 g28 g29 g30 g56 g57 ft_rhythm ft_rhythmLong _ _ _ o60 ho60 hP hS (lv_sub hl [3, 2, 1, 0] rfl) (fun n61 eo H locs ls hP hS hl => ?_)
              subst eo
              refine lv_aload_n hx hb dX8_takeKick_151 rfl (lv_at hl 0 rfl) ?_
              refine va_get (ci := 8) (v := .ref qt_rhythm) (C := RX8) (T := TX8) (N := 35) hx hb hts hiX8 hown hK hP 0 rfl rfl 9 (by decide) fl38 (fun _ h9 => h9) rfl dX8_takeKick_152 ?_
              refine lv_iconst (v := 5) hx hb dX8_takeKick_155 (by decide) ?_
              refine lv_iload_n hx hb dX8_takeKick_156 rfl (lv_at hl 1 rfl) ?_
              refine lv_iadd hx hb dX8_takeKick_157 ?_
              refine lv_iload_n hx hb dX8_takeKick_158 rfl (lv_at hl 2 rfl) ?_
              replace h := ck_el h
              obtain ⟨hi62, h⟩ := h
              refine va_iast hx hb hK hP (dF hD rfl) hS 2 0 rfl rfl hi62 dX8_takeKick_159 (fun H locs hP _ hS => ?_)
              replace hP : va_P D vwCl [(qt, .inr (8, [.ref qt_w, .ref qt_isKept, .ref qt_value, .ref qt_weight, .ref qt_newTube, .ref qt_newPrice, .ref qt_newLow, .ref qt_newHigh, .ref qt_newGoods, .ref qt_rhythm, .ref qt_rhythmLong, .ref qt_slug, .int it_kinds, .int it_columns, .int it_slugs, .int it_newKinds, .int it_newColumns, .int it_newSlugs, .int n27, .ref qt_text, .int it_textSize, .int g28, .int g29, .int g30, .int g56, .int g57, .ref qt_of, .ref qt_buyerColumn, .ref qt_buyerKind, .ref qt_buyerCoins, .int it_buyerMany, .ref qt_tryRow, .ref qt_tryLong, .ref qt_tryFree, .int it_tryMany])), (qt_text, .inl (cI, 400, .inl ft_text)), (qt_rhythm, .inl (cI, 10, .inl (upd ft_rhythm (Int32.toNatClampNeg (5 + r12)) n61))), (qt_rhythmLong, .inl (cI, 10, .inl ft_rhythmLong))] H := hP
              refine lv_aload_n hx hb dX8_takeKick_160 rfl (lv_at hl 0 rfl) ?_
              refine va_get (ci := 8) (v := .ref qt_rhythmLong) (C := RX8) (T := TX8) (N := 35) hx hb hts hiX8 hown hK hP 0 rfl rfl 10 (by decide) fl41 (fun _ h9 => h9) rfl dX8_takeKick_161 ?_
              refine lv_iconst (v := 5) hx hb dX8_takeKick_164 (by decide) ?_
              refine lv_iload_n hx hb dX8_takeKick_165 rfl (lv_at hl 1 rfl) ?_
              refine lv_iadd hx hb dX8_takeKick_166 ?_
              refine lv_aload_n hx hb dX8_takeKick_167 rfl (lv_at hl 0 rfl) ?_
              refine va_get (ci := 8) (v := .int g30) (C := RX8) (T := TX8) (N := 35) hx hb hts hiX8 hown hK hP 0 rfl rfl 23 (by decide) fl105 (fun _ h9 => h9) rfl dX8_takeKick_168 ?_
              refine va_iast hx hb hK hP (dF hD rfl) hS 3 0 rfl rfl hi62 dX8_takeKick_171 (fun H locs hP _ hS => ?_)
              replace hP : va_P D vwCl [(qt, .inr (8, [.ref qt_w, .ref qt_isKept, .ref qt_value, .ref qt_weight, .ref qt_newTube, .ref qt_newPrice, .ref qt_newLow, .ref qt_newHigh, .ref qt_newGoods, .ref qt_rhythm, .ref qt_rhythmLong, .ref qt_slug, .int it_kinds, .int it_columns, .int it_slugs, .int it_newKinds, .int it_newColumns, .int it_newSlugs, .int n27, .ref qt_text, .int it_textSize, .int g28, .int g29, .int g30, .int g56, .int g57, .ref qt_of, .ref qt_buyerColumn, .ref qt_buyerKind, .ref qt_buyerCoins, .int it_buyerMany, .ref qt_tryRow, .ref qt_tryLong, .ref qt_tryFree, .int it_tryMany])), (qt_text, .inl (cI, 400, .inl ft_text)), (qt_rhythm, .inl (cI, 10, .inl (upd ft_rhythm (Int32.toNatClampNeg (5 + r12)) n61))), (qt_rhythmLong, .inl (cI, 10, .inl (upd ft_rhythmLong (Int32.toNatClampNeg (5 + r12)) g30)))] H := hP
              simp only [Option.some.injEq, Prod.mk.injEq] at h
              obtain ⟨rfl, rfl, rfl, rfl, rfl, rfl, rfl, rfl⟩ := h
              exact hret _ _ _ _ hP hS dX8_takeKick_172
      · replace h := if_t c26 h
        simp only [Option.some.injEq, Prod.mk.injEq] at h
        obtain ⟨rfl, rfl, rfl, rfl, rfl, rfl, rfl, rfl⟩ := h
        exact hret _ _ _ _ hP hS dX8_takeKick_47
    · replace h := if_t c21 h
      refine lv_iconst (v := 1) hx hb dX8_takeKick_31 (by decide) ?_
      refine lv_goto (tgt := 36) hx hb dX8_takeKick_32 (by decide) ?_
      refine lv_iconst (v := 4) hx hb dX8_takeKick_36 (by decide) ?_
      refine lv_aload_n hx hb dX8_takeKick_37 rfl (lv_at hl 1 rfl) ?_
      refine va_get (ci := 8) (v := .int g14) (C := RX8) (T := TX8) (N := 35) hx hb hts hiX8 hown hK hP 0 rfl rfl 22 (by decide) fl98 (fun _ h9 => h9) rfl dX8_takeKick_38 ?_
      replace h := bd_el h
      obtain ⟨⟨r63, g64, g65⟩, hc66, h⟩ := h
      refine callVI (rest := []) ⟨hx, hb, hml, hown, hts⟩ (ctX8_want l D cI cZ cB cS kK kV _ qt qt_w qt_isKept qt_value qt_weight qt_newTube qt_newPrice qt_newLow qt_newHigh qt_newGoods qt_rhythm qt_rhythmLong qt_slug qt_text qt_of qt_buyerColumn qt_buyerKind qt_buyerCoins qt_tryRow qt_tryLong qt_tryFree it_kinds it_columns it_slugs it_newKinds it_newColumns it_newSlugs it_rhythmTold it_textSize g13 g14 it_length g15 g16 it_buyerMany it_tryMany 1 4 g14 N r63 g64 g65 hc66) (cwV 3 hts gX8_takeKick_X8_want rfl rfl rfl hdX8_want ⟨Nat.le_of_ble_eq_true rfl, Nat.le_of_ble_eq_true rfl⟩) hK hN hX hP (dF hD rfl) hS hA [0] (mcC rfl mcN) (by decide +kernel) [(qt, .inr (8, [.ref qt_w, .ref qt_isKept, .ref qt_value, .ref qt_weight, .ref qt_newTube, .ref qt_newPrice, .ref qt_newLow, .ref qt_newHigh, .ref qt_newGoods, .ref qt_rhythm, .ref qt_rhythmLong, .ref qt_slug, .int it_kinds, .int it_columns, .int it_slugs, .int it_newKinds, .int it_newColumns, .int it_newSlugs, .int it_rhythmTold, .ref qt_text, .int it_textSize, .int g13, .int g14, .int it_length, .int g64, .int g65, .ref qt_of, .ref qt_buyerColumn, .ref qt_buyerKind, .ref qt_buyerCoins, .int it_buyerMany, .ref qt_tryRow, .ref qt_tryLong, .ref qt_tryFree, .int it_tryMany])), (qt_text, .inl (cI, 400, .inl ft_text)), (qt_rhythm, .inl (cI, 10, .inl ft_rhythm)), (qt_rhythmLong, .inl (cI, 10, .inl ft_rhythmLong))] [1, 2, 3] (mcC rfl mcN) ((mcC rfl (mcC rfl (mcC rfl mcN))).trans (mcC rfl (mcC rfl (mcC rfl mcN))).symm) 4 rfl (by decide +kernel) (va_recv hK hP (ci := 8) (q0 := 0) rfl rfl) rfl hl.1 rfl (Nat.le_of_ble_eq_true rfl) ⟨Nat.zero_le _, Nat.zero_le _⟩ dX8_takeKick_41 (fun H locs hP hS => ?_)
      refine lv_if_ne (tgt := 48) hx hb dX8_takeKick_44 (by decide) (fun c67 => ?_) (fun c67 => ?_)
      · replace h := if_f c67 h
        refine lv_aload_n hx hb dX8_takeKick_48 rfl (lv_at hl 1 rfl) ?_
        refine lv_dup hx hb dX8_takeKick_49 rfl ?_
        refine va_get (ci := 8) (v := .int it_rhythmTold) (C := RX8) (T := TX8) (N := 35) hx hb hts hiX8 hown hK hP 0 rfl rfl 18 (by decide) fl127 (fun _ h9 => h9) rfl dX8_takeKick_50 ?_
        refine lv_iconst (v := 1) hx hb dX8_takeKick_53 (by decide) ?_
        refine lv_iload_n hx hb dX8_takeKick_54 rfl (lv_at hl 0 rfl) ?_
        refine lv_ishl hx hb dX8_takeKick_55 ?_
        refine lv_ior hx hb dX8_takeKick_56 ?_
        refine lv_topi (fun n68 en68 => ?_)
        replace h := lt_at en68 h
        refine va_put (ci := 8) (v := .int n68) (ty := .int) (C := RX8) (T := TX8) (N := 35) hx hb hts hiX8 tyX8 tyX8_ok nmX8 hown hK hP (dF hD rfl) hS 0 rfl rfl 18 (by decide) fl127 (fun _ h9 => h9) rfl (by decide +kernel) rfl rfl (Nat.le_of_ble_eq_true rfl) dX8_takeKick_57 (fun H locs hP _ hS => ?_)
        replace hP : va_P D vwCl [(qt, .inr (8, [.ref qt_w, .ref qt_isKept, .ref qt_value, .ref qt_weight, .ref qt_newTube, .ref qt_newPrice, .ref qt_newLow, .ref qt_newHigh, .ref qt_newGoods, .ref qt_rhythm, .ref qt_rhythmLong, .ref qt_slug, .int it_kinds, .int it_columns, .int it_slugs, .int it_newKinds, .int it_newColumns, .int it_newSlugs, .int n68, .ref qt_text, .int it_textSize, .int g13, .int g14, .int it_length, .int g64, .int g65, .ref qt_of, .ref qt_buyerColumn, .ref qt_buyerKind, .ref qt_buyerCoins, .int it_buyerMany, .ref qt_tryRow, .ref qt_tryLong, .ref qt_tryFree, .int it_tryMany])), (qt_text, .inl (cI, 400, .inl ft_text)), (qt_rhythm, .inl (cI, 10, .inl ft_rhythm)), (qt_rhythmLong, .inl (cI, 10, .inl ft_rhythmLong))] H := hP
        refine lv_aload_n hx hb dX8_takeKick_60 rfl (lv_at hl 1 rfl) ?_
        replace h := bd_el h
        obtain ⟨⟨g69, g70, g71⟩, hc72, h⟩ := h
        refine callVV (rest := []) ⟨hx, hb, hml, hown, hts⟩ (ctX8_takeWord l D cI cZ cB cS kK kV _ qt qt_w qt_isKept qt_value qt_weight qt_newTube qt_newPrice qt_newLow qt_newHigh qt_newGoods qt_rhythm qt_rhythmLong qt_slug qt_text qt_of qt_buyerColumn qt_buyerKind qt_buyerCoins qt_tryRow qt_tryLong qt_tryFree it_kinds it_columns it_slugs it_newKinds it_newColumns it_newSlugs n68 it_textSize g13 g14 it_length g64 g65 it_buyerMany it_tryMany ft_text N g69 g70 g71 hc72) (cwV 0 hts gX8_takeKick_X8_takeWord rfl rfl rfl hdX8_takeWord ⟨Nat.le_of_ble_eq_true rfl, Nat.le_of_ble_eq_true rfl⟩) hK hN hX hP (dF hD rfl) hS hA [0, 1] (mcC rfl (mcC rfl mcN)) (by decide +kernel) [(qt, .inr (8, [.ref qt_w, .ref qt_isKept, .ref qt_value, .ref qt_weight, .ref qt_newTube, .ref qt_newPrice, .ref qt_newLow, .ref qt_newHigh, .ref qt_newGoods, .ref qt_rhythm, .ref qt_rhythmLong, .ref qt_slug, .int it_kinds, .int it_columns, .int it_slugs, .int it_newKinds, .int it_newColumns, .int it_newSlugs, .int n68, .ref qt_text, .int it_textSize, .int g69, .int g70, .int g71, .int g64, .int g65, .ref qt_of, .ref qt_buyerColumn, .ref qt_buyerKind, .ref qt_buyerCoins, .int it_buyerMany, .ref qt_tryRow, .ref qt_tryLong, .ref qt_tryFree, .int it_tryMany])), (qt_text, .inl (cI, 400, .inl ft_text)), (qt_rhythm, .inl (cI, 10, .inl ft_rhythm)), (qt_rhythmLong, .inl (cI, 10, .inl ft_rhythmLong))] [2, 3] (mcC rfl (mcC rfl mcN)) ((mcC rfl (mcC rfl mcN)).trans (mcC rfl (mcC rfl mcN)).symm) 4 rfl (by decide +kernel) (va_recv hK hP (ci := 8) (q0 := 0) rfl rfl) rfl hl.1 rfl (Nat.le_of_ble_eq_true rfl) ⟨Nat.zero_le _, Nat.zero_le _⟩ dX8_takeKick_61 (fun H locs hP hS => ?_)
        refine lv_aload_n hx hb dX8_takeKick_64 rfl (lv_at hl 1 rfl) ?_
        refine lv_aload_n hx hb dX8_takeKick_65 rfl (lv_at hl 1 rfl) ?_
        refine va_get (ci := 8) (v := .int g71) (C := RX8) (T := TX8) (N := 35) hx hb hts hiX8 hown hK hP 0 rfl rfl 23 (by decide) fl105 (fun _ h9 => h9) rfl dX8_takeKick_66 ?_
        refine lv_if_le (tgt := 76) hx hb dX8_takeKick_69 (by decide) (fun c73 => ?_) (fun c73 => ?_)
        · replace h := if_t c73 h
          refine lv_iconst (v := 0) hx hb dX8_takeKick_76 (by decide) ?_
          refine lv_iconst (v := 1) hx hb dX8_takeKick_77 (by decide) ?_
          refine lv_aload_n hx hb dX8_takeKick_78 rfl (lv_at hl 1 rfl) ?_
          refine va_get (ci := 8) (v := .int g70) (C := RX8) (T := TX8) (N := 35) hx hb hts hiX8 hown hK hP 0 rfl rfl 22 (by decide) fl98 (fun _ h9 => h9) rfl dX8_takeKick_79 ?_
          replace h := bd_el h
          obtain ⟨⟨r74, g75, g76⟩, hc77, h⟩ := h
          refine callVI (rest := []) ⟨hx, hb, hml, hown, hts⟩ (ctX8_want l D cI cZ cB cS kK kV _ qt qt_w qt_isKept qt_value qt_weight qt_newTube qt_newPrice qt_newLow qt_newHigh qt_newGoods qt_rhythm qt_rhythmLong qt_slug qt_text qt_of qt_buyerColumn qt_buyerKind qt_buyerCoins qt_tryRow qt_tryLong qt_tryFree it_kinds it_columns it_slugs it_newKinds it_newColumns it_newSlugs n68 it_textSize g69 g70 g71 g64 g65 it_buyerMany it_tryMany 0 1 g70 N r74 g75 g76 hc77) (cwV 3 hts gX8_takeKick_X8_want rfl rfl rfl hdX8_want ⟨Nat.le_of_ble_eq_true rfl, Nat.le_of_ble_eq_true rfl⟩) hK hN hX hP (dF hD rfl) hS hA [0] (mcC rfl mcN) (by decide +kernel) [(qt, .inr (8, [.ref qt_w, .ref qt_isKept, .ref qt_value, .ref qt_weight, .ref qt_newTube, .ref qt_newPrice, .ref qt_newLow, .ref qt_newHigh, .ref qt_newGoods, .ref qt_rhythm, .ref qt_rhythmLong, .ref qt_slug, .int it_kinds, .int it_columns, .int it_slugs, .int it_newKinds, .int it_newColumns, .int it_newSlugs, .int n68, .ref qt_text, .int it_textSize, .int g69, .int g70, .int g71, .int g75, .int g76, .ref qt_of, .ref qt_buyerColumn, .ref qt_buyerKind, .ref qt_buyerCoins, .int it_buyerMany, .ref qt_tryRow, .ref qt_tryLong, .ref qt_tryFree, .int it_tryMany])), (qt_text, .inl (cI, 400, .inl ft_text)), (qt_rhythm, .inl (cI, 10, .inl ft_rhythm)), (qt_rhythmLong, .inl (cI, 10, .inl ft_rhythmLong))] [1, 2, 3] (mcC rfl mcN) ((mcC rfl (mcC rfl (mcC rfl mcN))).trans (mcC rfl (mcC rfl (mcC rfl mcN))).symm) 4 rfl (by decide +kernel) (va_recv hK hP (ci := 8) (q0 := 0) rfl rfl) rfl hl.1 rfl (Nat.le_of_ble_eq_true rfl) ⟨Nat.zero_le _, Nat.zero_le _⟩ dX8_takeKick_82 (fun H locs hP hS => ?_)
          refine lv_if_eq (tgt := 172) hx hb dX8_takeKick_85 (by decide) (fun c78 => ?_) (fun c78 => ?_)
          · replace h := if_t c78 h
            simp only [Option.some.injEq, Prod.mk.injEq] at h
            obtain ⟨rfl, rfl, rfl, rfl, rfl, rfl, rfl, rfl⟩ := h
            exact hret _ _ _ _ hP hS dX8_takeKick_172
          · replace h := if_f c78 h
            refine lv_aload_n hx hb dX8_takeKick_88 rfl (lv_at hl 1 rfl) ?_
            refine lv_aload_n hx hb dX8_takeKick_89 rfl (lv_at hl 1 rfl) ?_
            replace h := bd_el h
            obtain ⟨r79, hc80, h⟩ := h
            refine callVI (rest := [.ref qt]) ⟨hx, hb, hml, hown, hts⟩ (ctX8_isRow l D cI cZ cB cS kK kV _ qt qt_w qt_isKept qt_value qt_weight qt_newTube qt_newPrice qt_newLow qt_newHigh qt_newGoods qt_rhythm qt_rhythmLong qt_slug qt_text qt_of qt_buyerColumn qt_buyerKind qt_buyerCoins qt_tryRow qt_tryLong qt_tryFree it_kinds it_columns it_slugs it_newKinds it_newColumns it_newSlugs n68 it_textSize g69 g70 g71 g75 g76 it_buyerMany it_tryMany ft_text N r79 hc80) (cwV 0 hts gX8_takeKick_X8_isRow rfl rfl rfl hdX8_isRow ⟨Nat.le_of_ble_eq_true rfl, Nat.le_of_ble_eq_true rfl⟩) hK hN hX hP (dF hD rfl) hS hA [0, 1] (mcC rfl (mcC rfl mcN)) (by decide +kernel) [(qt, .inr (8, [.ref qt_w, .ref qt_isKept, .ref qt_value, .ref qt_weight, .ref qt_newTube, .ref qt_newPrice, .ref qt_newLow, .ref qt_newHigh, .ref qt_newGoods, .ref qt_rhythm, .ref qt_rhythmLong, .ref qt_slug, .int it_kinds, .int it_columns, .int it_slugs, .int it_newKinds, .int it_newColumns, .int it_newSlugs, .int n68, .ref qt_text, .int it_textSize, .int g69, .int g70, .int g71, .int g75, .int g76, .ref qt_of, .ref qt_buyerColumn, .ref qt_buyerKind, .ref qt_buyerCoins, .int it_buyerMany, .ref qt_tryRow, .ref qt_tryLong, .ref qt_tryFree, .int it_tryMany])), (qt_text, .inl (cI, 400, .inl ft_text)), (qt_rhythm, .inl (cI, 10, .inl ft_rhythm)), (qt_rhythmLong, .inl (cI, 10, .inl ft_rhythmLong))] [2, 3] (mcC rfl (mcC rfl mcN)) ((mcC rfl (mcC rfl mcN)).trans (mcC rfl (mcC rfl mcN)).symm) 4 rfl (by decide +kernel) (va_recv hK hP (ci := 8) (q0 := 0) rfl rfl) rfl hl.1 rfl (Nat.le_of_ble_eq_true rfl) ⟨Nat.zero_le _, Nat.zero_le _⟩ dX8_takeKick_90 (fun H locs hP hS => ?_)
            refine lv_iconst (v := 4) hx hb dX8_takeKick_93 (by decide) ?_
            refine lv_aload_n hx hb dX8_takeKick_94 rfl (lv_at hl 1 rfl) ?_
            refine va_get (ci := 8) (v := .int g70) (C := RX8) (T := TX8) (N := 35) hx hb hts hiX8 hown hK hP 0 rfl rfl 22 (by decide) fl98 (fun _ h9 => h9) rfl dX8_takeKick_95 ?_
            replace h := bd_el h
            obtain ⟨⟨r81, g82, g83⟩, hc84, h⟩ := h
            refine callVI (rest := []) ⟨hx, hb, hml, hown, hts⟩ (ctX8_want l D cI cZ cB cS kK kV _ qt qt_w qt_isKept qt_value qt_weight qt_newTube qt_newPrice qt_newLow qt_newHigh qt_newGoods qt_rhythm qt_rhythmLong qt_slug qt_text qt_of qt_buyerColumn qt_buyerKind qt_buyerCoins qt_tryRow qt_tryLong qt_tryFree it_kinds it_columns it_slugs it_newKinds it_newColumns it_newSlugs n68 it_textSize g69 g70 g71 g75 g76 it_buyerMany it_tryMany r79 4 g70 N r81 g82 g83 hc84) (cwV 3 hts gX8_takeKick_X8_want rfl rfl rfl hdX8_want ⟨Nat.le_of_ble_eq_true rfl, Nat.le_of_ble_eq_true rfl⟩) hK hN hX hP (dF hD rfl) hS hA [0] (mcC rfl mcN) (by decide +kernel) [(qt, .inr (8, [.ref qt_w, .ref qt_isKept, .ref qt_value, .ref qt_weight, .ref qt_newTube, .ref qt_newPrice, .ref qt_newLow, .ref qt_newHigh, .ref qt_newGoods, .ref qt_rhythm, .ref qt_rhythmLong, .ref qt_slug, .int it_kinds, .int it_columns, .int it_slugs, .int it_newKinds, .int it_newColumns, .int it_newSlugs, .int n68, .ref qt_text, .int it_textSize, .int g69, .int g70, .int g71, .int g82, .int g83, .ref qt_of, .ref qt_buyerColumn, .ref qt_buyerKind, .ref qt_buyerCoins, .int it_buyerMany, .ref qt_tryRow, .ref qt_tryLong, .ref qt_tryFree, .int it_tryMany])), (qt_text, .inl (cI, 400, .inl ft_text)), (qt_rhythm, .inl (cI, 10, .inl ft_rhythm)), (qt_rhythmLong, .inl (cI, 10, .inl ft_rhythmLong))] [1, 2, 3] (mcC rfl mcN) ((mcC rfl (mcC rfl (mcC rfl mcN))).trans (mcC rfl (mcC rfl (mcC rfl mcN))).symm) 4 rfl (by decide +kernel) (va_recv hK hP (ci := 8) (q0 := 0) rfl rfl) rfl hl.1 rfl (Nat.le_of_ble_eq_true rfl) ⟨Nat.zero_le _, Nat.zero_le _⟩ dX8_takeKick_98 (fun H locs hP hS => ?_)
            refine lv_if_eq (tgt := 172) hx hb dX8_takeKick_101 (by decide) (fun c85 => ?_) (fun c85 => ?_)
            · replace h := if_t c85 h
              simp only [Option.some.injEq, Prod.mk.injEq] at h
              obtain ⟨rfl, rfl, rfl, rfl, rfl, rfl, rfl, rfl⟩ := h
              exact hret _ _ _ _ hP hS dX8_takeKick_172
            · replace h := if_f c85 h
              refine lv_iconst (v := 0) hx hb dX8_takeKick_104 (by decide) ?_
              refine lv_istore_n (lv' := [(2, .int 0), (1, .int r12), (0, .ref qt)]) hx hb dX8_takeKick_105 rfl hl (by decide) rfl (fun ls hl => ?_)
              refine lv_iconst (v := 0) hx hb dX8_takeKick_106 (by decide) ?_
              refine lv_istore_n (lv' := [(3, .int 0), (2, .int 0), (1, .int r12), (0, .ref qt)]) hx hb dX8_takeKick_107 rfl hl (by decide) rfl (fun ls hl => ?_)
              replace h := bd_el h
              obtain ⟨o86, ho86, h⟩ := h
              refine lp108 N r12 0 0 n68 g69 g70 g71 g82 g83 ft_rhythm ft_rhythmLong _ _ _ o86 ho86 hP hS (lv_sub hl [3, 2, 1, 0] rfl) (fun n87 eo H locs ls hP hS hl => ?_)
              subst eo
              refine lv_aload_n hx hb dX8_takeKick_151 rfl (lv_at hl 0 rfl) ?_
              refine va_get (ci := 8) (v := .ref qt_rhythm) (C := RX8) (T := TX8) (N := 35) hx hb hts hiX8 hown hK hP 0 rfl rfl 9 (by decide) fl38 (fun _ h9 => h9) rfl dX8_takeKick_152 ?_
              refine lv_iconst (v := 5) hx hb dX8_takeKick_155 (by decide) ?_
              refine lv_iload_n hx hb dX8_takeKick_156 rfl (lv_at hl 1 rfl) ?_
              refine lv_iadd hx hb dX8_takeKick_157 ?_
              refine lv_iload_n hx hb dX8_takeKick_158 rfl (lv_at hl 2 rfl) ?_
              replace h := ck_el h
              obtain ⟨hi88, h⟩ := h
              refine va_iast hx hb hK hP (dF hD rfl) hS 2 0 rfl rfl hi88 dX8_takeKick_159 (fun H locs hP _ hS => ?_)
              replace hP : va_P D vwCl [(qt, .inr (8, [.ref qt_w, .ref qt_isKept, .ref qt_value, .ref qt_weight, .ref qt_newTube, .ref qt_newPrice, .ref qt_newLow, .ref qt_newHigh, .ref qt_newGoods, .ref qt_rhythm, .ref qt_rhythmLong, .ref qt_slug, .int it_kinds, .int it_columns, .int it_slugs, .int it_newKinds, .int it_newColumns, .int it_newSlugs, .int n68, .ref qt_text, .int it_textSize, .int g69, .int g70, .int g71, .int g82, .int g83, .ref qt_of, .ref qt_buyerColumn, .ref qt_buyerKind, .ref qt_buyerCoins, .int it_buyerMany, .ref qt_tryRow, .ref qt_tryLong, .ref qt_tryFree, .int it_tryMany])), (qt_text, .inl (cI, 400, .inl ft_text)), (qt_rhythm, .inl (cI, 10, .inl (upd ft_rhythm (Int32.toNatClampNeg (5 + r12)) n87))), (qt_rhythmLong, .inl (cI, 10, .inl ft_rhythmLong))] H := hP
              refine lv_aload_n hx hb dX8_takeKick_160 rfl (lv_at hl 0 rfl) ?_
              refine va_get (ci := 8) (v := .ref qt_rhythmLong) (C := RX8) (T := TX8) (N := 35) hx hb hts hiX8 hown hK hP 0 rfl rfl 10 (by decide) fl41 (fun _ h9 => h9) rfl dX8_takeKick_161 ?_
              refine lv_iconst (v := 5) hx hb dX8_takeKick_164 (by decide) ?_
              refine lv_iload_n hx hb dX8_takeKick_165 rfl (lv_at hl 1 rfl) ?_
              refine lv_iadd hx hb dX8_takeKick_166 ?_
              refine lv_aload_n hx hb dX8_takeKick_167 rfl (lv_at hl 0 rfl) ?_
              refine va_get (ci := 8) (v := .int g71) (C := RX8) (T := TX8) (N := 35) hx hb hts hiX8 hown hK hP 0 rfl rfl 23 (by decide) fl105 (fun _ h9 => h9) rfl dX8_takeKick_168 ?_
              refine va_iast hx hb hK hP (dF hD rfl) hS 3 0 rfl rfl hi88 dX8_takeKick_171 (fun H locs hP _ hS => ?_)
              replace hP : va_P D vwCl [(qt, .inr (8, [.ref qt_w, .ref qt_isKept, .ref qt_value, .ref qt_weight, .ref qt_newTube, .ref qt_newPrice, .ref qt_newLow, .ref qt_newHigh, .ref qt_newGoods, .ref qt_rhythm, .ref qt_rhythmLong, .ref qt_slug, .int it_kinds, .int it_columns, .int it_slugs, .int it_newKinds, .int it_newColumns, .int it_newSlugs, .int n68, .ref qt_text, .int it_textSize, .int g69, .int g70, .int g71, .int g82, .int g83, .ref qt_of, .ref qt_buyerColumn, .ref qt_buyerKind, .ref qt_buyerCoins, .int it_buyerMany, .ref qt_tryRow, .ref qt_tryLong, .ref qt_tryFree, .int it_tryMany])), (qt_text, .inl (cI, 400, .inl ft_text)), (qt_rhythm, .inl (cI, 10, .inl (upd ft_rhythm (Int32.toNatClampNeg (5 + r12)) n87))), (qt_rhythmLong, .inl (cI, 10, .inl (upd ft_rhythmLong (Int32.toNatClampNeg (5 + r12)) g71)))] H := hP
              simp only [Option.some.injEq, Prod.mk.injEq] at h
              obtain ⟨rfl, rfl, rfl, rfl, rfl, rfl, rfl, rfl⟩ := h
              exact hret _ _ _ _ hP hS dX8_takeKick_172
        · replace h := if_f c73 h
          refine lv_iconst (v := 1) hx hb dX8_takeKick_72 (by decide) ?_
          refine lv_goto (tgt := 77) hx hb dX8_takeKick_73 (by decide) ?_
          refine lv_iconst (v := 1) hx hb dX8_takeKick_77 (by decide) ?_
          refine lv_aload_n hx hb dX8_takeKick_78 rfl (lv_at hl 1 rfl) ?_
          refine va_get (ci := 8) (v := .int g70) (C := RX8) (T := TX8) (N := 35) hx hb hts hiX8 hown hK hP 0 rfl rfl 22 (by decide) fl98 (fun _ h9 => h9) rfl dX8_takeKick_79 ?_
          replace h := bd_el h
          obtain ⟨⟨r89, g90, g91⟩, hc92, h⟩ := h
          refine callVI (rest := []) ⟨hx, hb, hml, hown, hts⟩ (ctX8_want l D cI cZ cB cS kK kV _ qt qt_w qt_isKept qt_value qt_weight qt_newTube qt_newPrice qt_newLow qt_newHigh qt_newGoods qt_rhythm qt_rhythmLong qt_slug qt_text qt_of qt_buyerColumn qt_buyerKind qt_buyerCoins qt_tryRow qt_tryLong qt_tryFree it_kinds it_columns it_slugs it_newKinds it_newColumns it_newSlugs n68 it_textSize g69 g70 g71 g64 g65 it_buyerMany it_tryMany 1 1 g70 N r89 g90 g91 hc92) (cwV 3 hts gX8_takeKick_X8_want rfl rfl rfl hdX8_want ⟨Nat.le_of_ble_eq_true rfl, Nat.le_of_ble_eq_true rfl⟩) hK hN hX hP (dF hD rfl) hS hA [0] (mcC rfl mcN) (by decide +kernel) [(qt, .inr (8, [.ref qt_w, .ref qt_isKept, .ref qt_value, .ref qt_weight, .ref qt_newTube, .ref qt_newPrice, .ref qt_newLow, .ref qt_newHigh, .ref qt_newGoods, .ref qt_rhythm, .ref qt_rhythmLong, .ref qt_slug, .int it_kinds, .int it_columns, .int it_slugs, .int it_newKinds, .int it_newColumns, .int it_newSlugs, .int n68, .ref qt_text, .int it_textSize, .int g69, .int g70, .int g71, .int g90, .int g91, .ref qt_of, .ref qt_buyerColumn, .ref qt_buyerKind, .ref qt_buyerCoins, .int it_buyerMany, .ref qt_tryRow, .ref qt_tryLong, .ref qt_tryFree, .int it_tryMany])), (qt_text, .inl (cI, 400, .inl ft_text)), (qt_rhythm, .inl (cI, 10, .inl ft_rhythm)), (qt_rhythmLong, .inl (cI, 10, .inl ft_rhythmLong))] [1, 2, 3] (mcC rfl mcN) ((mcC rfl (mcC rfl (mcC rfl mcN))).trans (mcC rfl (mcC rfl (mcC rfl mcN))).symm) 4 rfl (by decide +kernel) (va_recv hK hP (ci := 8) (q0 := 0) rfl rfl) rfl hl.1 rfl (Nat.le_of_ble_eq_true rfl) ⟨Nat.zero_le _, Nat.zero_le _⟩ dX8_takeKick_82 (fun H locs hP hS => ?_)
          refine lv_if_eq (tgt := 172) hx hb dX8_takeKick_85 (by decide) (fun c93 => ?_) (fun c93 => ?_)
          · replace h := if_t c93 h
            simp only [Option.some.injEq, Prod.mk.injEq] at h
            obtain ⟨rfl, rfl, rfl, rfl, rfl, rfl, rfl, rfl⟩ := h
            exact hret _ _ _ _ hP hS dX8_takeKick_172
          · replace h := if_f c93 h
            refine lv_aload_n hx hb dX8_takeKick_88 rfl (lv_at hl 1 rfl) ?_
            refine lv_aload_n hx hb dX8_takeKick_89 rfl (lv_at hl 1 rfl) ?_
            replace h := bd_el h
            obtain ⟨r94, hc95, h⟩ := h
            refine callVI (rest := [.ref qt]) ⟨hx, hb, hml, hown, hts⟩ (ctX8_isRow l D cI cZ cB cS kK kV _ qt qt_w qt_isKept qt_value qt_weight qt_newTube qt_newPrice qt_newLow qt_newHigh qt_newGoods qt_rhythm qt_rhythmLong qt_slug qt_text qt_of qt_buyerColumn qt_buyerKind qt_buyerCoins qt_tryRow qt_tryLong qt_tryFree it_kinds it_columns it_slugs it_newKinds it_newColumns it_newSlugs n68 it_textSize g69 g70 g71 g90 g91 it_buyerMany it_tryMany ft_text N r94 hc95) (cwV 0 hts gX8_takeKick_X8_isRow rfl rfl rfl hdX8_isRow ⟨Nat.le_of_ble_eq_true rfl, Nat.le_of_ble_eq_true rfl⟩) hK hN hX hP (dF hD rfl) hS hA [0, 1] (mcC rfl (mcC rfl mcN)) (by decide +kernel) [(qt, .inr (8, [.ref qt_w, .ref qt_isKept, .ref qt_value, .ref qt_weight, .ref qt_newTube, .ref qt_newPrice, .ref qt_newLow, .ref qt_newHigh, .ref qt_newGoods, .ref qt_rhythm, .ref qt_rhythmLong, .ref qt_slug, .int it_kinds, .int it_columns, .int it_slugs, .int it_newKinds, .int it_newColumns, .int it_newSlugs, .int n68, .ref qt_text, .int it_textSize, .int g69, .int g70, .int g71, .int g90, .int g91, .ref qt_of, .ref qt_buyerColumn, .ref qt_buyerKind, .ref qt_buyerCoins, .int it_buyerMany, .ref qt_tryRow, .ref qt_tryLong, .ref qt_tryFree, .int it_tryMany])), (qt_text, .inl (cI, 400, .inl ft_text)), (qt_rhythm, .inl (cI, 10, .inl ft_rhythm)), (qt_rhythmLong, .inl (cI, 10, .inl ft_rhythmLong))] [2, 3] (mcC rfl (mcC rfl mcN)) ((mcC rfl (mcC rfl mcN)).trans (mcC rfl (mcC rfl mcN)).symm) 4 rfl (by decide +kernel) (va_recv hK hP (ci := 8) (q0 := 0) rfl rfl) rfl hl.1 rfl (Nat.le_of_ble_eq_true rfl) ⟨Nat.zero_le _, Nat.zero_le _⟩ dX8_takeKick_90 (fun H locs hP hS => ?_)
            refine lv_iconst (v := 4) hx hb dX8_takeKick_93 (by decide) ?_
            refine lv_aload_n hx hb dX8_takeKick_94 rfl (lv_at hl 1 rfl) ?_
            refine va_get (ci := 8) (v := .int g70) (C := RX8) (T := TX8) (N := 35) hx hb hts hiX8 hown hK hP 0 rfl rfl 22 (by decide) fl98 (fun _ h9 => h9) rfl dX8_takeKick_95 ?_
            replace h := bd_el h
            obtain ⟨⟨r96, g97, g98⟩, hc99, h⟩ := h
            refine callVI (rest := []) ⟨hx, hb, hml, hown, hts⟩ (ctX8_want l D cI cZ cB cS kK kV _ qt qt_w qt_isKept qt_value qt_weight qt_newTube qt_newPrice qt_newLow qt_newHigh qt_newGoods qt_rhythm qt_rhythmLong qt_slug qt_text qt_of qt_buyerColumn qt_buyerKind qt_buyerCoins qt_tryRow qt_tryLong qt_tryFree it_kinds it_columns it_slugs it_newKinds it_newColumns it_newSlugs n68 it_textSize g69 g70 g71 g90 g91 it_buyerMany it_tryMany r94 4 g70 N r96 g97 g98 hc99) (cwV 3 hts gX8_takeKick_X8_want rfl rfl rfl hdX8_want ⟨Nat.le_of_ble_eq_true rfl, Nat.le_of_ble_eq_true rfl⟩) hK hN hX hP (dF hD rfl) hS hA [0] (mcC rfl mcN) (by decide +kernel) [(qt, .inr (8, [.ref qt_w, .ref qt_isKept, .ref qt_value, .ref qt_weight, .ref qt_newTube, .ref qt_newPrice, .ref qt_newLow, .ref qt_newHigh, .ref qt_newGoods, .ref qt_rhythm, .ref qt_rhythmLong, .ref qt_slug, .int it_kinds, .int it_columns, .int it_slugs, .int it_newKinds, .int it_newColumns, .int it_newSlugs, .int n68, .ref qt_text, .int it_textSize, .int g69, .int g70, .int g71, .int g97, .int g98, .ref qt_of, .ref qt_buyerColumn, .ref qt_buyerKind, .ref qt_buyerCoins, .int it_buyerMany, .ref qt_tryRow, .ref qt_tryLong, .ref qt_tryFree, .int it_tryMany])), (qt_text, .inl (cI, 400, .inl ft_text)), (qt_rhythm, .inl (cI, 10, .inl ft_rhythm)), (qt_rhythmLong, .inl (cI, 10, .inl ft_rhythmLong))] [1, 2, 3] (mcC rfl mcN) ((mcC rfl (mcC rfl (mcC rfl mcN))).trans (mcC rfl (mcC rfl (mcC rfl mcN))).symm) 4 rfl (by decide +kernel) (va_recv hK hP (ci := 8) (q0 := 0) rfl rfl) rfl hl.1 rfl (Nat.le_of_ble_eq_true rfl) ⟨Nat.zero_le _, Nat.zero_le _⟩ dX8_takeKick_98 (fun H locs hP hS => ?_)
            refine lv_if_eq (tgt := 172) hx hb dX8_takeKick_101 (by decide) (fun c100 => ?_) (fun c100 => ?_)
            · replace h := if_t c100 h
              simp only [Option.some.injEq, Prod.mk.injEq] at h
              obtain ⟨rfl, rfl, rfl, rfl, rfl, rfl, rfl, rfl⟩ := h
              exact hret _ _ _ _ hP hS dX8_takeKick_172
            · replace h := if_f c100 h
              refine lv_iconst (v := 0) hx hb dX8_takeKick_104 (by decide) ?_
              refine lv_istore_n (lv' := [(2, .int 0), (1, .int r12), (0, .ref qt)]) hx hb dX8_takeKick_105 rfl hl (by decide) rfl (fun ls hl => ?_)
              refine lv_iconst (v := 0) hx hb dX8_takeKick_106 (by decide) ?_
              refine lv_istore_n (lv' := [(3, .int 0), (2, .int 0), (1, .int r12), (0, .ref qt)]) hx hb dX8_takeKick_107 rfl hl (by decide) rfl (fun ls hl => ?_)
              replace h := bd_el h
              obtain ⟨o101, ho101, h⟩ := h
              refine lp108 N r12 0 0 n68 g69 g70 g71 g97 g98 ft_rhythm ft_rhythmLong _ _ _ o101 ho101 hP hS (lv_sub hl [3, 2, 1, 0] rfl) (fun n102 eo H locs ls hP hS hl => ?_)
              subst eo
              refine lv_aload_n hx hb dX8_takeKick_151 rfl (lv_at hl 0 rfl) ?_
              refine va_get (ci := 8) (v := .ref qt_rhythm) (C := RX8) (T := TX8) (N := 35) hx hb hts hiX8 hown hK hP 0 rfl rfl 9 (by decide) fl38 (fun _ h9 => h9) rfl dX8_takeKick_152 ?_
              refine lv_iconst (v := 5) hx hb dX8_takeKick_155 (by decide) ?_
              refine lv_iload_n hx hb dX8_takeKick_156 rfl (lv_at hl 1 rfl) ?_
              refine lv_iadd hx hb dX8_takeKick_157 ?_
              refine lv_iload_n hx hb dX8_takeKick_158 rfl (lv_at hl 2 rfl) ?_
              replace h := ck_el h
              obtain ⟨hi103, h⟩ := h
              refine va_iast hx hb hK hP (dF hD rfl) hS 2 0 rfl rfl hi103 dX8_takeKick_159 (fun H locs hP _ hS => ?_)
              replace hP : va_P D vwCl [(qt, .inr (8, [.ref qt_w, .ref qt_isKept, .ref qt_value, .ref qt_weight, .ref qt_newTube, .ref qt_newPrice, .ref qt_newLow, .ref qt_newHigh, .ref qt_newGoods, .ref qt_rhythm, .ref qt_rhythmLong, .ref qt_slug, .int it_kinds, .int it_columns, .int it_slugs, .int it_newKinds, .int it_newColumns, .int it_newSlugs, .int n68, .ref qt_text, .int it_textSize, .int g69, .int g70, .int g71, .int g97, .int g98, .ref qt_of, .ref qt_buyerColumn, .ref qt_buyerKind, .ref qt_buyerCoins, .int it_buyerMany, .ref qt_tryRow, .ref qt_tryLong, .ref qt_tryFree, .int it_tryMany])), (qt_text, .inl (cI, 400, .inl ft_text)), (qt_rhythm, .inl (cI, 10, .inl (upd ft_rhythm (Int32.toNatClampNeg (5 + r12)) n102))), (qt_rhythmLong, .inl (cI, 10, .inl ft_rhythmLong))] H := hP
              refine lv_aload_n hx hb dX8_takeKick_160 rfl (lv_at hl 0 rfl) ?_
              refine va_get (ci := 8) (v := .ref qt_rhythmLong) (C := RX8) (T := TX8) (N := 35) hx hb hts hiX8 hown hK hP 0 rfl rfl 10 (by decide) fl41 (fun _ h9 => h9) rfl dX8_takeKick_161 ?_
              refine lv_iconst (v := 5) hx hb dX8_takeKick_164 (by decide) ?_
              refine lv_iload_n hx hb dX8_takeKick_165 rfl (lv_at hl 1 rfl) ?_
              refine lv_iadd hx hb dX8_takeKick_166 ?_
              refine lv_aload_n hx hb dX8_takeKick_167 rfl (lv_at hl 0 rfl) ?_
              refine va_get (ci := 8) (v := .int g71) (C := RX8) (T := TX8) (N := 35) hx hb hts hiX8 hown hK hP 0 rfl rfl 23 (by decide) fl105 (fun _ h9 => h9) rfl dX8_takeKick_168 ?_
              refine va_iast hx hb hK hP (dF hD rfl) hS 3 0 rfl rfl hi103 dX8_takeKick_171 (fun H locs hP _ hS => ?_)
              replace hP : va_P D vwCl [(qt, .inr (8, [.ref qt_w, .ref qt_isKept, .ref qt_value, .ref qt_weight, .ref qt_newTube, .ref qt_newPrice, .ref qt_newLow, .ref qt_newHigh, .ref qt_newGoods, .ref qt_rhythm, .ref qt_rhythmLong, .ref qt_slug, .int it_kinds, .int it_columns, .int it_slugs, .int it_newKinds, .int it_newColumns, .int it_newSlugs, .int n68, .ref qt_text, .int it_textSize, .int g69, .int g70, .int g71, .int g97, .int g98, .ref qt_of, .ref qt_buyerColumn, .ref qt_buyerKind, .ref qt_buyerCoins, .int it_buyerMany, .ref qt_tryRow, .ref qt_tryLong, .ref qt_tryFree, .int it_tryMany])), (qt_text, .inl (cI, 400, .inl ft_text)), (qt_rhythm, .inl (cI, 10, .inl (upd ft_rhythm (Int32.toNatClampNeg (5 + r12)) n102))), (qt_rhythmLong, .inl (cI, 10, .inl (upd ft_rhythmLong (Int32.toNatClampNeg (5 + r12)) g71)))] H := hP
              simp only [Option.some.injEq, Prod.mk.injEq] at h
              obtain ⟨rfl, rfl, rfl, rfl, rfl, rfl, rfl, rfl⟩ := h
              exact hret _ _ _ _ hP hS dX8_takeKick_172
      · replace h := if_t c67 h
        simp only [Option.some.injEq, Prod.mk.injEq] at h
        obtain ⟨rfl, rfl, rfl, rfl, rfl, rfl, rfl, rfl⟩ := h
        exact hret _ _ _ _ hP hS dX8_takeKick_47
theorem hdX8_takeKick : yX8_takeKick.cls = RX8 ∧ yX8_takeKick.cls ≠ "java/lang/invoke/MethodHandle" ∧ yX8_takeKick.cls ≠ "java/lang/invoke/VarHandle" ∧ (parseMethodDescriptor yX8_takeKick.desc).map (fun d => d.parameters.length) = some 0 := by decide +kernel
