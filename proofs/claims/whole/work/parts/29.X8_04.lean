noncomputable def fX8_told (N : Nat) (it_kinds : Int32) (it_columns : Int32) (it_slugs : Int32) (it_textSize : Int32) (it_buyerMany : Int32) (it_tryMany : Int32) (ft_w : Nat → Int32) (ft_value : Nat → Int32) (x1 : Int32) : Option (Int32) := (if x1 = 0 then some it_kinds else if x1 = 1 then some it_columns else if x1 = 2 then some it_slugs else if x1 = 3 then some it_textSize else if x1 = 4 then ck 45 240 (lt (ft_w (Int32.toNatClampNeg 45)) fun n7 => some n7) else if x1 = 5 then ck 46 240 (lt (ft_w (Int32.toNatClampNeg 46)) fun n10 => some n10) else if x1 = 6 then ck 47 240 (lt (ft_w (Int32.toNatClampNeg 47)) fun n13 => some n13) else if x1 = 7 then ck 48 240 (lt (ft_w (Int32.toNatClampNeg 48)) fun n16 => some n16) else if x1 = 8 then ck 49 240 (lt (ft_w (Int32.toNatClampNeg 49)) fun n19 => some n19) else if x1 = 9 then some it_buyerMany else if x1 = 10 then some it_tryMany else if x1 = 11 then bd (fX8_valueOfAll N it_kinds ft_value ft_w) fun r23 => some r23 else some (-1000000002))
set_option maxHeartbeats 4000000 in
set_option maxRecDepth 100000 in
theorem ctX8_told (l : Launch) (D : va_G) (cI cZ cB cS : ClassId) (kK kV : Nat → Nat) (sz : Nat) (qt qt_w qt_isKept qt_value qt_weight qt_newTube qt_newPrice qt_newLow qt_newHigh qt_newGoods qt_rhythm qt_rhythmLong qt_slug qt_text qt_of qt_buyerColumn qt_buyerKind qt_buyerCoins qt_tryRow qt_tryLong qt_tryFree : Nat) (it_kinds : Int32) (it_columns : Int32) (it_slugs : Int32) (it_newKinds : Int32) (it_newColumns : Int32) (it_newSlugs : Int32) (it_rhythmTold : Int32) (it_textSize : Int32) (it_at : Int32) (it_first : Int32) (it_length : Int32) (it_faultOf : Int32) (it_fault : Int32) (it_buyerMany : Int32) (it_tryMany : Int32) (ft_w : Nat → Int32) (ft_value : Nat → Int32) (x1 : Int32) (N : Nat) (r0 : Int32)  (h : fX8_told N it_kinds it_columns it_slugs it_textSize it_buyerMany it_tryMany ft_w ft_value x1 = some r0) : CtI l yX8_told wsX8_told { frames := 1, cells := 0, slots := 0, locals := 22 } D (TY cI cZ cB cS) kK kV [.ref qt, .int x1] [(qt, .inr (8, [.ref qt_w, .ref qt_isKept, .ref qt_value, .ref qt_weight, .ref qt_newTube, .ref qt_newPrice, .ref qt_newLow, .ref qt_newHigh, .ref qt_newGoods, .ref qt_rhythm, .ref qt_rhythmLong, .ref qt_slug, .int it_kinds, .int it_columns, .int it_slugs, .int it_newKinds, .int it_newColumns, .int it_newSlugs, .int it_rhythmTold, .ref qt_text, .int it_textSize, .int it_at, .int it_first, .int it_length, .int it_faultOf, .int it_fault, .ref qt_of, .ref qt_buyerColumn, .ref qt_buyerKind, .ref qt_buyerCoins, .int it_buyerMany, .ref qt_tryRow, .ref qt_tryLong, .ref qt_tryFree, .int it_tryMany])), (qt_w, .inl (cI, 240, .inl ft_w)), (qt_value, .inl (cI, 10, .inl ft_value))] [(qt, .inr (8, [.ref qt_w, .ref qt_isKept, .ref qt_value, .ref qt_weight, .ref qt_newTube, .ref qt_newPrice, .ref qt_newLow, .ref qt_newHigh, .ref qt_newGoods, .ref qt_rhythm, .ref qt_rhythmLong, .ref qt_slug, .int it_kinds, .int it_columns, .int it_slugs, .int it_newKinds, .int it_newColumns, .int it_newSlugs, .int it_rhythmTold, .ref qt_text, .int it_textSize, .int it_at, .int it_first, .int it_length, .int it_faultOf, .int it_fault, .ref qt_of, .ref qt_buyerColumn, .ref qt_buyerKind, .ref qt_buyerCoins, .int it_buyerMany, .ref qt_tryRow, .ref qt_tryLong, .ref qt_tryFree, .int it_tryMany])), (qt_w, .inl (cI, 240, .inl ft_w)), (qt_value, .inl (cI, 10, .inl ft_value))] sz r0 := by
  refine mkI (cc := cX8_told) (maxL := 2) (rt := .int) (own := RX8) (by decide) rfl rfl (Nat.le_of_ble_eq_true rfl) ?_
  intro p e s m args below meth c A Z ls hx hb hml hown hts hK hN hX hP hD hA hS hret hl
  have hl : lv_has ls 2 [(0, .ref qt), (1, .int x1)] := hl
  have fl164 : (Cond.fieldLink RX8 164 "SoupWallModel" "kinds" "I").before args s = true := hts _ (List.mem_of_getElem? (l := wsX8_told) (i := 1) rfl)
  have hiX8 : ∀ w ∈ wsX80, w ∈ wsX8_told := fun w h => List.mem_cons_of_mem _ (List.mem_append_right _ h)
  have fl167 : (Cond.fieldLink RX8 167 "SoupWallModel" "columns" "I").before args s = true := hts _ (List.mem_of_getElem? (l := wsX8_told) (i := 2) rfl)
  have fl170 : (Cond.fieldLink RX8 170 "SoupWallModel" "slugs" "I").before args s = true := hts _ (List.mem_of_getElem? (l := wsX8_told) (i := 3) rfl)
  have fl82 : (Cond.fieldLink RX8 82 "SoupWallModel" "textSize" "I").before args s = true := hts _ (List.mem_of_getElem? (l := wsX8_told) (i := 4) rfl)
  have fl7 : (Cond.fieldLink RX8 7 "SoupWallModel" "w" "[I").before args s = true := hts _ (List.mem_of_getElem? (l := wsX8_told) (i := 5) rfl)
  have fl173 : (Cond.fieldLink RX8 173 "SoupWallModel" "buyerMany" "I").before args s = true := hts _ (List.mem_of_getElem? (l := wsX8_told) (i := 6) rfl)
  have fl176 : (Cond.fieldLink RX8 176 "SoupWallModel" "tryMany" "I").before args s = true := hts _ (List.mem_of_getElem? (l := wsX8_told) (i := 7) rfl)
  have cn81 : (Cond.constant RX8 81 (-1000000002)).before args s = true := hts _ (List.mem_of_getElem? (l := wsX8_told) (i := 8) rfl)
  unfold fX8_told at h
  refine lv_iload_n hx hb dX8_told_0 rfl (lv_at hl 1 rfl) ?_
  by_cases c1 : x1 = 0
  · replace h := if_t c1 h
    refine lv_tableIn (off := 63) (tgt := 64) hx hb dX8_told_1 (by rw [c1]; decide) (by rw [c1]; decide) (by rw [c1]; rfl) (by decide) ?_
    refine lv_aload_n hx hb dX8_told_64 rfl (lv_at hl 0 rfl) ?_
    refine va_get (ci := 8) (v := .int it_kinds) (C := RX8) (T := TX8) (N := 35) hx hb hts hiX8 hown hK hP 0 rfl rfl 12 (by decide) fl164 (fun _ h9 => h9) rfl dX8_told_65 ?_
    simp only [Option.some.injEq] at h
    subst h
    exact hret _ _ _ _ hP hS rfl dX8_told_68
  replace h := if_f c1 h
  by_cases c2 : x1 = 1
  · replace h := if_t c2 h
    refine lv_tableIn (off := 68) (tgt := 69) hx hb dX8_told_1 (by rw [c2]; decide) (by rw [c2]; decide) (by rw [c2]; rfl) (by decide) ?_
    refine lv_aload_n hx hb dX8_told_69 rfl (lv_at hl 0 rfl) ?_
    refine va_get (ci := 8) (v := .int it_columns) (C := RX8) (T := TX8) (N := 35) hx hb hts hiX8 hown hK hP 0 rfl rfl 13 (by decide) fl167 (fun _ h9 => h9) rfl dX8_told_70 ?_
    simp only [Option.some.injEq] at h
    subst h
    exact hret _ _ _ _ hP hS rfl dX8_told_73
  replace h := if_f c2 h
  by_cases c3 : x1 = 2
  · replace h := if_t c3 h
    refine lv_tableIn (off := 73) (tgt := 74) hx hb dX8_told_1 (by rw [c3]; decide) (by rw [c3]; decide) (by rw [c3]; rfl) (by decide) ?_
    refine lv_aload_n hx hb dX8_told_74 rfl (lv_at hl 0 rfl) ?_
    refine va_get (ci := 8) (v := .int it_slugs) (C := RX8) (T := TX8) (N := 35) hx hb hts hiX8 hown hK hP 0 rfl rfl 14 (by decide) fl170 (fun _ h9 => h9) rfl dX8_told_75 ?_
    simp only [Option.some.injEq] at h
    subst h
    exact hret _ _ _ _ hP hS rfl dX8_told_78
  replace h := if_f c3 h
  by_cases c4 : x1 = 3
  · replace h := if_t c4 h
    refine lv_tableIn (off := 78) (tgt := 79) hx hb dX8_told_1 (by rw [c4]; decide) (by rw [c4]; decide) (by rw [c4]; rfl) (by decide) ?_
    refine lv_aload_n hx hb dX8_told_79 rfl (lv_at hl 0 rfl) ?_
    refine va_get (ci := 8) (v := .int it_textSize) (C := RX8) (T := TX8) (N := 35) hx hb hts hiX8 hown hK hP 0 rfl rfl 20 (by decide) fl82 (fun _ h9 => h9) rfl dX8_told_80 ?_
    simp only [Option.some.injEq] at h
    subst h
    exact hret _ _ _ _ hP hS rfl dX8_told_83
  replace h := if_f c4 h
  by_cases c5 : x1 = 4
  · replace h := if_t c5 h
    refine lv_tableIn (off := 83) (tgt := 84) hx hb dX8_told_1 (by rw [c5]; decide) (by rw [c5]; decide) (by rw [c5]; rfl) (by decide) ?_
    refine lv_aload_n hx hb dX8_told_84 rfl (lv_at hl 0 rfl) ?_
    refine va_get (ci := 8) (v := .ref qt_w) (C := RX8) (T := TX8) (N := 35) hx hb hts hiX8 hown hK hP 0 rfl rfl 0 (by decide) fl7 (fun _ h9 => h9) rfl dX8_told_85 ?_
    refine lv_bipush (v := 45) hx hb dX8_told_88 (by decide) ?_
    replace h := ck_el h
    obtain ⟨hi6, h⟩ := h
    refine va_iald hx hb hK hP 1 0 rfl rfl hi6 dX8_told_90 ?_
    refine lv_topi (fun n7 en7 => ?_)
    replace h := lt_at en7 h
    simp only [Option.some.injEq] at h
    subst h
    exact hret _ _ _ _ hP hS rfl dX8_told_91
  replace h := if_f c5 h
  by_cases c8 : x1 = 5
  · replace h := if_t c8 h
    refine lv_tableIn (off := 91) (tgt := 92) hx hb dX8_told_1 (by rw [c8]; decide) (by rw [c8]; decide) (by rw [c8]; rfl) (by decide) ?_
    refine lv_aload_n hx hb dX8_told_92 rfl (lv_at hl 0 rfl) ?_
    refine va_get (ci := 8) (v := .ref qt_w) (C := RX8) (T := TX8) (N := 35) hx hb hts hiX8 hown hK hP 0 rfl rfl 0 (by decide) fl7 (fun _ h9 => h9) rfl dX8_told_93 ?_
    refine lv_bipush (v := 46) hx hb dX8_told_96 (by decide) ?_
    replace h := ck_el h
    obtain ⟨hi9, h⟩ := h
    refine va_iald hx hb hK hP 1 0 rfl rfl hi9 dX8_told_98 ?_
    refine lv_topi (fun n10 en10 => ?_)
    replace h := lt_at en10 h
    simp only [Option.some.injEq] at h
    subst h
    exact hret _ _ _ _ hP hS rfl dX8_told_99
  replace h := if_f c8 h
  by_cases c11 : x1 = 6
  · replace h := if_t c11 h
    refine lv_tableIn (off := 99) (tgt := 100) hx hb dX8_told_1 (by rw [c11]; decide) (by rw [c11]; decide) (by rw [c11]; rfl) (by decide) ?_
    refine lv_aload_n hx hb dX8_told_100 rfl (lv_at hl 0 rfl) ?_
    refine va_get (ci := 8) (v := .ref qt_w) (C := RX8) (T := TX8) (N := 35) hx hb hts hiX8 hown hK hP 0 rfl rfl 0 (by decide) fl7 (fun _ h9 => h9) rfl dX8_told_101 ?_
    refine lv_bipush (v := 47) hx hb dX8_told_104 (by decide) ?_
    replace h := ck_el h
    obtain ⟨hi12, h⟩ := h
    refine va_iald hx hb hK hP 1 0 rfl rfl hi12 dX8_told_106 ?_
    refine lv_topi (fun n13 en13 => ?_)
    replace h := lt_at en13 h
    simp only [Option.some.injEq] at h
    subst h
    exact hret _ _ _ _ hP hS rfl dX8_told_107
  replace h := if_f c11 h
  by_cases c14 : x1 = 7
  · replace h := if_t c14 h
    refine lv_tableIn (off := 107) (tgt := 108) hx hb dX8_told_1 (by rw [c14]; decide) (by rw [c14]; decide) (by rw [c14]; rfl) (by decide) ?_
    refine lv_aload_n hx hb dX8_told_108 rfl (lv_at hl 0 rfl) ?_
    refine va_get (ci := 8) (v := .ref qt_w) (C := RX8) (T := TX8) (N := 35) hx hb hts hiX8 hown hK hP 0 rfl rfl 0 (by decide) fl7 (fun _ h9 => h9) rfl dX8_told_109 ?_
    refine lv_bipush (v := 48) hx hb dX8_told_112 (by decide) ?_
    replace h := ck_el h
    obtain ⟨hi15, h⟩ := h
    refine va_iald hx hb hK hP 1 0 rfl rfl hi15 dX8_told_114 ?_
    refine lv_topi (fun n16 en16 => ?_)
    replace h := lt_at en16 h
    simp only [Option.some.injEq] at h
    subst h
    exact hret _ _ _ _ hP hS rfl dX8_told_115
  replace h := if_f c14 h
  by_cases c17 : x1 = 8
  · replace h := if_t c17 h
    refine lv_tableIn (off := 115) (tgt := 116) hx hb dX8_told_1 (by rw [c17]; decide) (by rw [c17]; decide) (by rw [c17]; rfl) (by decide) ?_
    refine lv_aload_n hx hb dX8_told_116 rfl (lv_at hl 0 rfl) ?_
    refine va_get (ci := 8) (v := .ref qt_w) (C := RX8) (T := TX8) (N := 35) hx hb hts hiX8 hown hK hP 0 rfl rfl 0 (by decide) fl7 (fun _ h9 => h9) rfl dX8_told_117 ?_
    refine lv_bipush (v := 49) hx hb dX8_told_120 (by decide) ?_
    replace h := ck_el h
    obtain ⟨hi18, h⟩ := h
    refine va_iald hx hb hK hP 1 0 rfl rfl hi18 dX8_told_122 ?_
    refine lv_topi (fun n19 en19 => ?_)
    replace h := lt_at en19 h
    simp only [Option.some.injEq] at h
    subst h
    exact hret _ _ _ _ hP hS rfl dX8_told_123
  replace h := if_f c17 h
  by_cases c20 : x1 = 9
  · replace h := if_t c20 h
    refine lv_tableIn (off := 123) (tgt := 124) hx hb dX8_told_1 (by rw [c20]; decide) (by rw [c20]; decide) (by rw [c20]; rfl) (by decide) ?_
    refine lv_aload_n hx hb dX8_told_124 rfl (lv_at hl 0 rfl) ?_
    refine va_get (ci := 8) (v := .int it_buyerMany) (C := RX8) (T := TX8) (N := 35) hx hb hts hiX8 hown hK hP 0 rfl rfl 30 (by decide) fl173 (fun _ h9 => h9) rfl dX8_told_125 ?_
    simp only [Option.some.injEq] at h
    subst h
    exact hret _ _ _ _ hP hS rfl dX8_told_128
  replace h := if_f c20 h
  by_cases c21 : x1 = 10
  · replace h := if_t c21 h
    refine lv_tableIn (off := 128) (tgt := 129) hx hb dX8_told_1 (by rw [c21]; decide) (by rw [c21]; decide) (by rw [c21]; rfl) (by decide) ?_
    refine lv_aload_n hx hb dX8_told_129 rfl (lv_at hl 0 rfl) ?_
    refine va_get (ci := 8) (v := .int it_tryMany) (C := RX8) (T := TX8) (N := 35) hx hb hts hiX8 hown hK hP 0 rfl rfl 34 (by decide) fl176 (fun _ h9 => h9) rfl dX8_told_130 ?_
    simp only [Option.some.injEq] at h
    subst h
    exact hret _ _ _ _ hP hS rfl dX8_told_133
  replace h := if_f c21 h
  by_cases c22 : x1 = 11
  · replace h := if_t c22 h
    refine lv_tableIn (off := 133) (tgt := 134) hx hb dX8_told_1 (by rw [c22]; decide) (by rw [c22]; decide) (by rw [c22]; rfl) (by decide) ?_
    refine lv_aload_n hx hb dX8_told_134 rfl (lv_at hl 0 rfl) ?_
    replace h := bd_el h
    obtain ⟨r23, hc24, h⟩ := h
    refine callVI (rest := []) ⟨hx, hb, hml, hown, hts⟩ (ctX8_valueOfAll l D cI cZ cB cS kK kV _ qt qt_w qt_isKept qt_value qt_weight qt_newTube qt_newPrice qt_newLow qt_newHigh qt_newGoods qt_rhythm qt_rhythmLong qt_slug qt_text qt_of qt_buyerColumn qt_buyerKind qt_buyerCoins qt_tryRow qt_tryLong qt_tryFree it_kinds it_columns it_slugs it_newKinds it_newColumns it_newSlugs it_rhythmTold it_textSize it_at it_first it_length it_faultOf it_fault it_buyerMany it_tryMany ft_value ft_w N r23 hc24) (cwV 0 hts gX8_told_X8_valueOfAll rfl rfl rfl hdX8_valueOfAll ⟨Nat.le_of_ble_eq_true rfl, Nat.le_of_ble_eq_true rfl⟩) hK hN hX hP (dF hD rfl) hS hA [0, 2, 1] (mcC rfl (mcC rfl (mcC rfl mcN))) (by decide +kernel) [(qt, .inr (8, [.ref qt_w, .ref qt_isKept, .ref qt_value, .ref qt_weight, .ref qt_newTube, .ref qt_newPrice, .ref qt_newLow, .ref qt_newHigh, .ref qt_newGoods, .ref qt_rhythm, .ref qt_rhythmLong, .ref qt_slug, .int it_kinds, .int it_columns, .int it_slugs, .int it_newKinds, .int it_newColumns, .int it_newSlugs, .int it_rhythmTold, .ref qt_text, .int it_textSize, .int it_at, .int it_first, .int it_length, .int it_faultOf, .int it_fault, .ref qt_of, .ref qt_buyerColumn, .ref qt_buyerKind, .ref qt_buyerCoins, .int it_buyerMany, .ref qt_tryRow, .ref qt_tryLong, .ref qt_tryFree, .int it_tryMany])), (qt_w, .inl (cI, 240, .inl ft_w)), (qt_value, .inl (cI, 10, .inl ft_value))] [] (mcC rfl (mcC rfl (mcC rfl mcN))) (mcN.trans mcN.symm) 3 rfl (by decide +kernel) (va_recv hK hP (ci := 8) (q0 := 0) rfl rfl) rfl hl.1 rfl (Nat.le_of_ble_eq_true rfl) ⟨Nat.zero_le _, Nat.zero_le _⟩ dX8_told_135 (fun H locs hP hS => ?_)
    simp only [Option.some.injEq] at h
    subst h
    exact hret _ _ _ _ hP hS rfl dX8_told_138
  replace h := if_f c22 h
  have tc1 : (x1 : Int32).toInt ≠ 0 := sw_ne c1
  have tc2 : (x1 : Int32).toInt ≠ 1 := sw_ne c2
  have tc3 : (x1 : Int32).toInt ≠ 2 := sw_ne c3
  have tc4 : (x1 : Int32).toInt ≠ 3 := sw_ne c4
  have tc5 : (x1 : Int32).toInt ≠ 4 := sw_ne c5
  have tc8 : (x1 : Int32).toInt ≠ 5 := sw_ne c8
  have tc11 : (x1 : Int32).toInt ≠ 6 := sw_ne c11
  have tc14 : (x1 : Int32).toInt ≠ 7 := sw_ne c14
  have tc17 : (x1 : Int32).toInt ≠ 8 := sw_ne c17
  have tc20 : (x1 : Int32).toInt ≠ 9 := sw_ne c20
  have tc21 : (x1 : Int32).toInt ≠ 10 := sw_ne c21
  have tc22 : (x1 : Int32).toInt ≠ 11 := sw_ne c22
  refine lv_tableOut (tgt := 139) hx hb dX8_told_1 (by omega) (by decide) ?_
  refine lv_ldc (v := (-1000000002)) hx hb hown cn81 dX8_told_139 ?_
  simp only [Option.some.injEq] at h
  subst h
  exact hret _ _ _ _ hP hS rfl dX8_told_141
theorem hdX8_told : yX8_told.cls = RX8 ∧ yX8_told.cls ≠ "java/lang/invoke/MethodHandle" ∧ yX8_told.cls ≠ "java/lang/invoke/VarHandle" ∧ (parseMethodDescriptor yX8_told.desc).map (fun d => d.parameters.length) = some 1 := by decide +kernel

noncomputable def fX8_passedBy_L4 (N : Nat) : Nat → Int32 → Int32 → Int32 → Int32 → (Nat → Int32) → (Nat → Int32) → Option (Int32)
  | 0, _, _, _, _, _, _ => none
  | k + 1, x1, x2, x3, it_columns, ft_weight, ft_w => (if it_columns ≤ x3 then some x2 else bd (fX8_weightIn N ft_weight ft_w 0 x1) fun r2 => bd (fX8_passes N ft_w 0 x3 r2) fun r4 => bd (fX8_one N r4) fun r6 => lt (x2 ||| (r6 <<< (x3 &&& 31))) fun n8 => lt (x3 + 1) fun n9 => fX8_passedBy_L4 N k x1 n8 n9 it_columns ft_weight ft_w)
theorem fX8_passedBy_L4_s (N : Nat) (k : Nat) (x1 : Int32) (x2 : Int32) (x3 : Int32) (it_columns : Int32) (ft_weight : Nat → Int32) (ft_w : Nat → Int32) : fX8_passedBy_L4 N (k + 1) x1 x2 x3 it_columns ft_weight ft_w = ((if it_columns ≤ x3 then some x2 else bd (fX8_weightIn N ft_weight ft_w 0 x1) fun r2 => bd (fX8_passes N ft_w 0 x3 r2) fun r4 => bd (fX8_one N r4) fun r6 => lt (x2 ||| (r6 <<< (x3 &&& 31))) fun n8 => lt (x3 + 1) fun n9 => fX8_passedBy_L4 N k x1 n8 n9 it_columns ft_weight ft_w)) := rfl
noncomputable def fX8_passedBy (N : Nat) (it_columns : Int32) (ft_weight : Nat → Int32) (ft_w : Nat → Int32) (x1 : Int32) : Option (Int32) := bd (fX8_passedBy_L4 N N x1 0 0 it_columns ft_weight ft_w) fun n11 => some n11
set_option maxHeartbeats 4000000 in
set_option maxRecDepth 100000 in
theorem ctX8_passedBy (l : Launch) (D : va_G) (cI cZ cB cS : ClassId) (kK kV : Nat → Nat) (sz : Nat) (qt qt_w qt_isKept qt_value qt_weight qt_newTube qt_newPrice qt_newLow qt_newHigh qt_newGoods qt_rhythm qt_rhythmLong qt_slug qt_text qt_of qt_buyerColumn qt_buyerKind qt_buyerCoins qt_tryRow qt_tryLong qt_tryFree : Nat) (it_kinds : Int32) (it_columns : Int32) (it_slugs : Int32) (it_newKinds : Int32) (it_newColumns : Int32) (it_newSlugs : Int32) (it_rhythmTold : Int32) (it_textSize : Int32) (it_at : Int32) (it_first : Int32) (it_length : Int32) (it_faultOf : Int32) (it_fault : Int32) (it_buyerMany : Int32) (it_tryMany : Int32) (ft_weight : Nat → Int32) (ft_w : Nat → Int32) (x1 : Int32) (N : Nat) (r0 : Int32)  (h : fX8_passedBy N it_columns ft_weight ft_w x1 = some r0) : CtI l yX8_passedBy wsX8_passedBy { frames := 2, cells := 0, slots := 0, locals := 48 } D (TY cI cZ cB cS) kK kV [.ref qt, .int x1] [(qt, .inr (8, [.ref qt_w, .ref qt_isKept, .ref qt_value, .ref qt_weight, .ref qt_newTube, .ref qt_newPrice, .ref qt_newLow, .ref qt_newHigh, .ref qt_newGoods, .ref qt_rhythm, .ref qt_rhythmLong, .ref qt_slug, .int it_kinds, .int it_columns, .int it_slugs, .int it_newKinds, .int it_newColumns, .int it_newSlugs, .int it_rhythmTold, .ref qt_text, .int it_textSize, .int it_at, .int it_first, .int it_length, .int it_faultOf, .int it_fault, .ref qt_of, .ref qt_buyerColumn, .ref qt_buyerKind, .ref qt_buyerCoins, .int it_buyerMany, .ref qt_tryRow, .ref qt_tryLong, .ref qt_tryFree, .int it_tryMany])), (qt_weight, .inl (cI, 10, .inl ft_weight)), (qt_w, .inl (cI, 240, .inl ft_w))] [(qt, .inr (8, [.ref qt_w, .ref qt_isKept, .ref qt_value, .ref qt_weight, .ref qt_newTube, .ref qt_newPrice, .ref qt_newLow, .ref qt_newHigh, .ref qt_newGoods, .ref qt_rhythm, .ref qt_rhythmLong, .ref qt_slug, .int it_kinds, .int it_columns, .int it_slugs, .int it_newKinds, .int it_newColumns, .int it_newSlugs, .int it_rhythmTold, .ref qt_text, .int it_textSize, .int it_at, .int it_first, .int it_length, .int it_faultOf, .int it_fault, .ref qt_of, .ref qt_buyerColumn, .ref qt_buyerKind, .ref qt_buyerCoins, .int it_buyerMany, .ref qt_tryRow, .ref qt_tryLong, .ref qt_tryFree, .int it_tryMany])), (qt_weight, .inl (cI, 10, .inl ft_weight)), (qt_w, .inl (cI, 240, .inl ft_w))] sz r0 := by
  refine mkI (cc := cX8_passedBy) (maxL := 4) (rt := .int) (own := RX8) (by decide) rfl rfl (Nat.le_of_ble_eq_true rfl) ?_
  intro p e s m args below meth c A Z ls hx hb hml hown hts hK hN hX hP hD hA hS hret hl
  have hl : lv_has ls 4 [(0, .ref qt), (1, .int x1)] := hl
  have fl167 : (Cond.fieldLink RX8 167 "SoupWallModel" "columns" "I").before args s = true := hts _ (List.mem_of_getElem? (l := wsX8_passedBy) (i := 1) rfl)
  have hiX8 : ∀ w ∈ wsX80, w ∈ wsX8_passedBy := fun w h => List.mem_cons_of_mem _ (List.mem_append_right _ h)
  have lp4 : ∀ (k : Nat) (x1 : Int32) (x2 : Int32) (x3 : Int32)  (H : Heap) (locs : List Loc) (ls : Array Slot) (o : Int32), fX8_passedBy_L4 N k x1 x2 x3 it_columns ft_weight ft_w = some o → va_P D vwCl [(qt, .inr (8, [.ref qt_w, .ref qt_isKept, .ref qt_value, .ref qt_weight, .ref qt_newTube, .ref qt_newPrice, .ref qt_newLow, .ref qt_newHigh, .ref qt_newGoods, .ref qt_rhythm, .ref qt_rhythmLong, .ref qt_slug, .int it_kinds, .int it_columns, .int it_slugs, .int it_newKinds, .int it_newColumns, .int it_newSlugs, .int it_rhythmTold, .ref qt_text, .int it_textSize, .int it_at, .int it_first, .int it_length, .int it_faultOf, .int it_fault, .ref qt_of, .ref qt_buyerColumn, .ref qt_buyerKind, .ref qt_buyerCoins, .int it_buyerMany, .ref qt_tryRow, .ref qt_tryLong, .ref qt_tryFree, .int it_tryMany])), (qt_weight, .inl (cI, 10, .inl ft_weight)), (qt_w, .inl (cI, 240, .inl ft_w))] H → va_S A s.heap H locs → lv_has ls 4 [(0, .ref qt), (1, .int x1), (2, .int x2), (3, .int x3)] → (∀ (e2 : Int32), e2 = o → ∀ (H : Heap) (locs : List Loc) (ls : Array Slot), va_P D vwCl [(qt, .inr (8, [.ref qt_w, .ref qt_isKept, .ref qt_value, .ref qt_weight, .ref qt_newTube, .ref qt_newPrice, .ref qt_newLow, .ref qt_newHigh, .ref qt_newGoods, .ref qt_rhythm, .ref qt_rhythmLong, .ref qt_slug, .int it_kinds, .int it_columns, .int it_slugs, .int it_newKinds, .int it_newColumns, .int it_newSlugs, .int it_rhythmTold, .ref qt_text, .int it_textSize, .int it_at, .int it_first, .int it_length, .int it_faultOf, .int it_fault, .ref qt_of, .ref qt_buyerColumn, .ref qt_buyerKind, .ref qt_buyerCoins, .int it_buyerMany, .ref qt_tryRow, .ref qt_tryLong, .ref qt_tryFree, .int it_tryMany])), (qt_weight, .inl (cI, 10, .inl ft_weight)), (qt_w, .inl (cI, 240, .inl ft_w))] H → va_S A s.heap H locs → lv_has ls 4 [(2, .int e2)] → W p l e ({ frames := 2, cells := 0, slots := 0, locals := 48 } : Room) s m args below meth c H locs 0 0 Z (F0 m 38 ls [])) → W p l e ({ frames := 2, cells := 0, slots := 0, locals := 48 } : Room) s m args below meth c H locs 0 0 Z (F0 m 4 ls []) := by
    intro k
    induction k with
    | zero =>
      intro x1 x2 x3 H locs ls o h
      exact nomatch (show (none : Option (Int32)) = some o from h)
    | succ k ih =>
      intro x1 x2 x3 H locs ls o h hP hS hl K
      rw [fX8_passedBy_L4_s] at h
      refine lv_iload_n hx hb dX8_passedBy_4 rfl (lv_at hl 3 rfl) ?_
      refine lv_aload_n hx hb dX8_passedBy_5 rfl (lv_at hl 0 rfl) ?_
      refine va_get (ci := 8) (v := .int it_columns) (C := RX8) (T := TX8) (N := 35) hx hb hts hiX8 hown hK hP 0 rfl rfl 13 (by decide) fl167 (fun _ h9 => h9) rfl dX8_passedBy_6 ?_
      refine lv_icmp_ge (tgt := 38) hx hb dX8_passedBy_9 (by decide) (fun c1 => ?_) (fun c1 => ?_)
      · replace h := if_t c1 h
        exact K x2 (Option.some.inj h) _ _ _ hP hS (lv_sub hl [2] rfl)
      · replace h := if_f c1 h
        refine lv_iload_n hx hb dX8_passedBy_12 rfl (lv_at hl 2 rfl) ?_
        refine lv_aload_n hx hb dX8_passedBy_13 rfl (lv_at hl 0 rfl) ?_
        refine lv_iconst (v := 0) hx hb dX8_passedBy_14 (by decide) ?_
        refine lv_iload_n hx hb dX8_passedBy_15 rfl (lv_at hl 3 rfl) ?_
        refine lv_aload_n hx hb dX8_passedBy_16 rfl (lv_at hl 0 rfl) ?_
        refine lv_iconst (v := 0) hx hb dX8_passedBy_17 (by decide) ?_
        refine lv_iload_n hx hb dX8_passedBy_18 rfl (lv_at hl 1 rfl) ?_
        replace h := bd_el h
        obtain ⟨r2, hc3, h⟩ := h
        refine callVI (rest := [.int x3, .int 0, .ref qt, .int x2]) ⟨hx, hb, hml, hown, hts⟩ (ctX8_weightIn l D cI cZ cB cS kK kV _ qt qt_w qt_isKept qt_value qt_weight qt_newTube qt_newPrice qt_newLow qt_newHigh qt_newGoods qt_rhythm qt_rhythmLong qt_slug qt_text qt_of qt_buyerColumn qt_buyerKind qt_buyerCoins qt_tryRow qt_tryLong qt_tryFree it_kinds it_columns it_slugs it_newKinds it_newColumns it_newSlugs it_rhythmTold it_textSize it_at it_first it_length it_faultOf it_fault it_buyerMany it_tryMany ft_weight ft_w 0 x1 N r2 hc3) (cwV 2 hts gX8_passedBy_X8_weightIn rfl rfl rfl hdX8_weightIn ⟨Nat.le_of_ble_eq_true rfl, Nat.le_of_ble_eq_true rfl⟩) hK hN hX hP (dF hD rfl) hS hA [0, 1, 2] (mcC rfl (mcC rfl (mcC rfl mcN))) (by decide +kernel) [(qt, .inr (8, [.ref qt_w, .ref qt_isKept, .ref qt_value, .ref qt_weight, .ref qt_newTube, .ref qt_newPrice, .ref qt_newLow, .ref qt_newHigh, .ref qt_newGoods, .ref qt_rhythm, .ref qt_rhythmLong, .ref qt_slug, .int it_kinds, .int it_columns, .int it_slugs, .int it_newKinds, .int it_newColumns, .int it_newSlugs, .int it_rhythmTold, .ref qt_text, .int it_textSize, .int it_at, .int it_first, .int it_length, .int it_faultOf, .int it_fault, .ref qt_of, .ref qt_buyerColumn, .ref qt_buyerKind, .ref qt_buyerCoins, .int it_buyerMany, .ref qt_tryRow, .ref qt_tryLong, .ref qt_tryFree, .int it_tryMany])), (qt_weight, .inl (cI, 10, .inl ft_weight)), (qt_w, .inl (cI, 240, .inl ft_w))] [] (mcC rfl (mcC rfl (mcC rfl mcN))) (mcN.trans mcN.symm) 3 rfl (by decide +kernel) (va_recv hK hP (ci := 8) (q0 := 0) rfl rfl) rfl hl.1 rfl (Nat.le_of_ble_eq_true rfl) ⟨Nat.zero_le _, Nat.zero_le _⟩ dX8_passedBy_19 (fun H locs hP hS => ?_)
        replace h := bd_el h
        obtain ⟨r4, hc5, h⟩ := h
        refine callVI (rest := [.int x2]) ⟨hx, hb, hml, hown, hts⟩ (ctX8_passes l D cI cZ cB cS kK kV _ qt qt_w qt_isKept qt_value qt_weight qt_newTube qt_newPrice qt_newLow qt_newHigh qt_newGoods qt_rhythm qt_rhythmLong qt_slug qt_text qt_of qt_buyerColumn qt_buyerKind qt_buyerCoins qt_tryRow qt_tryLong qt_tryFree it_kinds it_columns it_slugs it_newKinds it_newColumns it_newSlugs it_rhythmTold it_textSize it_at it_first it_length it_faultOf it_fault it_buyerMany it_tryMany ft_w 0 x3 r2 N r4 hc5) (cwV 3 hts gX8_passedBy_X8_passes rfl rfl rfl hdX8_passes ⟨Nat.le_of_ble_eq_true rfl, Nat.le_of_ble_eq_true rfl⟩) hK hN hX hP (dF hD rfl) hS hA [0, 2] (mcC rfl (mcC rfl mcN)) (by decide +kernel) [(qt, .inr (8, [.ref qt_w, .ref qt_isKept, .ref qt_value, .ref qt_weight, .ref qt_newTube, .ref qt_newPrice, .ref qt_newLow, .ref qt_newHigh, .ref qt_newGoods, .ref qt_rhythm, .ref qt_rhythmLong, .ref qt_slug, .int it_kinds, .int it_columns, .int it_slugs, .int it_newKinds, .int it_newColumns, .int it_newSlugs, .int it_rhythmTold, .ref qt_text, .int it_textSize, .int it_at, .int it_first, .int it_length, .int it_faultOf, .int it_fault, .ref qt_of, .ref qt_buyerColumn, .ref qt_buyerKind, .ref qt_buyerCoins, .int it_buyerMany, .ref qt_tryRow, .ref qt_tryLong, .ref qt_tryFree, .int it_tryMany])), (qt_weight, .inl (cI, 10, .inl ft_weight)), (qt_w, .inl (cI, 240, .inl ft_w))] [1] (mcC rfl (mcC rfl mcN)) ((mcC rfl mcN).trans (mcC rfl mcN).symm) 3 rfl (by decide +kernel) (va_recv hK hP (ci := 8) (q0 := 0) rfl rfl) rfl hl.1 rfl (Nat.le_of_ble_eq_true rfl) ⟨Nat.zero_le _, Nat.zero_le _⟩ dX8_passedBy_22 (fun H locs hP hS => ?_)
        replace h := bd_el h
        obtain ⟨r6, hc7, h⟩ := h
        refine callSI (rest := [.int x2]) ⟨hx, hb, hml, hown, hts⟩ (ctX8_one l D cI cZ cB cS kK kV _ r4 N r6 hc7) (va_cwS 1 hts gX8_passedBy_X8_one rfl rfl rfl hdX8_one ⟨Nat.le_of_ble_eq_true rfl, Nat.le_of_ble_eq_true rfl⟩) hK hN hX hP (dF hD rfl) hS hA [] mcN (by decide +kernel) [(qt, .inr (8, [.ref qt_w, .ref qt_isKept, .ref qt_value, .ref qt_weight, .ref qt_newTube, .ref qt_newPrice, .ref qt_newLow, .ref qt_newHigh, .ref qt_newGoods, .ref qt_rhythm, .ref qt_rhythmLong, .ref qt_slug, .int it_kinds, .int it_columns, .int it_slugs, .int it_newKinds, .int it_newColumns, .int it_newSlugs, .int it_rhythmTold, .ref qt_text, .int it_textSize, .int it_at, .int it_first, .int it_length, .int it_faultOf, .int it_fault, .ref qt_of, .ref qt_buyerColumn, .ref qt_buyerKind, .ref qt_buyerCoins, .int it_buyerMany, .ref qt_tryRow, .ref qt_tryLong, .ref qt_tryFree, .int it_tryMany])), (qt_weight, .inl (cI, 10, .inl ft_weight)), (qt_w, .inl (cI, 240, .inl ft_w))] [0, 1, 2] mcN ((mcC rfl (mcC rfl (mcC rfl mcN))).trans (mcC rfl (mcC rfl (mcC rfl mcN))).symm) 3 rfl (by decide +kernel) rfl hl.1 rfl (Nat.le_of_ble_eq_true rfl) ⟨Nat.zero_le _, Nat.zero_le _⟩ dX8_passedBy_25 (fun H locs hP hS => ?_)
        refine lv_iload_n hx hb dX8_passedBy_28 rfl (lv_at hl 3 rfl) ?_
        refine lv_ishl hx hb dX8_passedBy_29 ?_
        refine lv_ior hx hb dX8_passedBy_30 ?_
        refine lv_topi (fun n8 en8 => ?_)
        replace h := lt_at en8 h
        refine lv_istore_n (lv' := [(2, .int n8), (0, .ref qt), (1, .int x1), (3, .int x3)]) hx hb dX8_passedBy_31 rfl hl (by decide) rfl (fun ls hl => ?_)
        obtain ⟨n9, en9⟩ : ∃ z : Int32, z = x3 + 1 := ⟨_, rfl⟩
        replace h := lt_at en9 h
        refine lv_iinc (v := n9) (lv' := [(3, .int n9), (2, .int n8), (0, .ref qt), (1, .int x1)]) hx hb dX8_passedBy_32 hl (k := 3) rfl (by rw [en9]; rfl) (by decide) rfl (fun ls hl => ?_)
        refine lv_goto (tgt := 4) hx hb dX8_passedBy_35 (by decide) ?_
        exact ih x1 n8 n9 _ _ _ o h hP hS (lv_sub hl [2, 3, 1, 0] rfl) K
  unfold fX8_passedBy at h
  refine lv_iconst (v := 0) hx hb dX8_passedBy_0 (by decide) ?_
  refine lv_istore_n (lv' := [(2, .int 0), (0, .ref qt), (1, .int x1)]) hx hb dX8_passedBy_1 rfl hl (by decide) rfl (fun ls hl => ?_)
  refine lv_iconst (v := 0) hx hb dX8_passedBy_2 (by decide) ?_
  refine lv_istore_n (lv' := [(3, .int 0), (2, .int 0), (0, .ref qt), (1, .int x1)]) hx hb dX8_passedBy_3 rfl hl (by decide) rfl (fun ls hl => ?_)
  replace h := bd_el h
  obtain ⟨o10, ho10, h⟩ := h
  refine lp4 N x1 0 0 _ _ _ o10 ho10 hP hS (lv_sub hl [2, 3, 1, 0] rfl) (fun n11 eo H locs ls hP hS hl => ?_)
  subst eo
  refine lv_iload_n hx hb dX8_passedBy_38 rfl (lv_at hl 0 rfl) ?_
  simp only [Option.some.injEq] at h
  subst h
  exact hret _ _ _ _ hP hS rfl dX8_passedBy_39
theorem hdX8_passedBy : yX8_passedBy.cls = RX8 ∧ yX8_passedBy.cls ≠ "java/lang/invoke/MethodHandle" ∧ yX8_passedBy.cls ≠ "java/lang/invoke/VarHandle" ∧ (parseMethodDescriptor yX8_passedBy.desc).map (fun d => d.parameters.length) = some 1 := by decide +kernel

noncomputable def fX8_coin (N : Nat) (it_kinds : Int32) (it_columns : Int32) (ft_value : Nat → Int32) (ft_weight : Nat → Int32) (ft_w : Nat → Int32) (x1 : Int32) (x2 : Int32) : Option (Int32) := bd (fX8_isKind N it_kinds x1) fun r1 => (if r1 = 0 then some (-1000000001) else (if x2 = 0 then ck x1 10 (lt (ft_value (Int32.toNatClampNeg x1)) fun n6 => some n6) else if x2 = 1 then ck x1 10 (lt (ft_weight (Int32.toNatClampNeg x1)) fun n9 => some n9) else if x2 = 2 then bd (fX8_weightIn N ft_weight ft_w 0 x1) fun r11 => some r11 else if x2 = 3 then ck x1 240 (lt (ft_w (Int32.toNatClampNeg x1)) fun n15 => some n15) else if x2 = 4 then bd (fX8_passedBy N it_columns ft_weight ft_w x1) fun r17 => some r17 else some (-1000000002)))
set_option maxHeartbeats 4000000 in
set_option maxRecDepth 100000 in
theorem ctX8_coin (l : Launch) (D : va_G) (cI cZ cB cS : ClassId) (kK kV : Nat → Nat) (sz : Nat) (qt qt_w qt_isKept qt_value qt_weight qt_newTube qt_newPrice qt_newLow qt_newHigh qt_newGoods qt_rhythm qt_rhythmLong qt_slug qt_text qt_of qt_buyerColumn qt_buyerKind qt_buyerCoins qt_tryRow qt_tryLong qt_tryFree : Nat) (it_kinds : Int32) (it_columns : Int32) (it_slugs : Int32) (it_newKinds : Int32) (it_newColumns : Int32) (it_newSlugs : Int32) (it_rhythmTold : Int32) (it_textSize : Int32) (it_at : Int32) (it_first : Int32) (it_length : Int32) (it_faultOf : Int32) (it_fault : Int32) (it_buyerMany : Int32) (it_tryMany : Int32) (ft_value : Nat → Int32) (ft_weight : Nat → Int32) (ft_w : Nat → Int32) (x1 : Int32) (x2 : Int32) (N : Nat) (r0 : Int32)  (h : fX8_coin N it_kinds it_columns ft_value ft_weight ft_w x1 x2 = some r0) : CtI l yX8_coin wsX8_coin { frames := 3, cells := 0, slots := 0, locals := 71 } D (TY cI cZ cB cS) kK kV [.ref qt, .int x1, .int x2] [(qt, .inr (8, [.ref qt_w, .ref qt_isKept, .ref qt_value, .ref qt_weight, .ref qt_newTube, .ref qt_newPrice, .ref qt_newLow, .ref qt_newHigh, .ref qt_newGoods, .ref qt_rhythm, .ref qt_rhythmLong, .ref qt_slug, .int it_kinds, .int it_columns, .int it_slugs, .int it_newKinds, .int it_newColumns, .int it_newSlugs, .int it_rhythmTold, .ref qt_text, .int it_textSize, .int it_at, .int it_first, .int it_length, .int it_faultOf, .int it_fault, .ref qt_of, .ref qt_buyerColumn, .ref qt_buyerKind, .ref qt_buyerCoins, .int it_buyerMany, .ref qt_tryRow, .ref qt_tryLong, .ref qt_tryFree, .int it_tryMany])), (qt_value, .inl (cI, 10, .inl ft_value)), (qt_weight, .inl (cI, 10, .inl ft_weight)), (qt_w, .inl (cI, 240, .inl ft_w))] [(qt, .inr (8, [.ref qt_w, .ref qt_isKept, .ref qt_value, .ref qt_weight, .ref qt_newTube, .ref qt_newPrice, .ref qt_newLow, .ref qt_newHigh, .ref qt_newGoods, .ref qt_rhythm, .ref qt_rhythmLong, .ref qt_slug, .int it_kinds, .int it_columns, .int it_slugs, .int it_newKinds, .int it_newColumns, .int it_newSlugs, .int it_rhythmTold, .ref qt_text, .int it_textSize, .int it_at, .int it_first, .int it_length, .int it_faultOf, .int it_fault, .ref qt_of, .ref qt_buyerColumn, .ref qt_buyerKind, .ref qt_buyerCoins, .int it_buyerMany, .ref qt_tryRow, .ref qt_tryLong, .ref qt_tryFree, .int it_tryMany])), (qt_value, .inl (cI, 10, .inl ft_value)), (qt_weight, .inl (cI, 10, .inl ft_weight)), (qt_w, .inl (cI, 240, .inl ft_w))] sz r0 := by
  refine mkI (cc := cX8_coin) (maxL := 3) (rt := .int) (own := RX8) (by decide) rfl rfl (Nat.le_of_ble_eq_true rfl) ?_
  intro p e s m args below meth c A Z ls hx hb hml hown hts hK hN hX hP hD hA hS hret hl
  have hl : lv_has ls 3 [(0, .ref qt), (1, .int x1), (2, .int x2)] := hl
  have fl17 : (Cond.fieldLink RX8 17 "SoupWallModel" "value" "[I").before args s = true := hts _ (List.mem_of_getElem? (l := wsX8_coin) (i := 2) rfl)
  have hiX8 : ∀ w ∈ wsX80, w ∈ wsX8_coin := fun w h => List.mem_cons_of_mem _ (List.mem_append_right _ h)
  have fl20 : (Cond.fieldLink RX8 20 "SoupWallModel" "weight" "[I").before args s = true := hts _ (List.mem_of_getElem? (l := wsX8_coin) (i := 3) rfl)
  have fl7 : (Cond.fieldLink RX8 7 "SoupWallModel" "w" "[I").before args s = true := hts _ (List.mem_of_getElem? (l := wsX8_coin) (i := 4) rfl)
  have cn81 : (Cond.constant RX8 81 (-1000000002)).before args s = true := hts _ (List.mem_of_getElem? (l := wsX8_coin) (i := 5) rfl)
  have cn193 : (Cond.constant RX8 193 (-1000000001)).before args s = true := hts _ (List.mem_of_getElem? (l := wsX8_coin) (i := 1) rfl)
  unfold fX8_coin at h
  refine lv_aload_n hx hb dX8_coin_0 rfl (lv_at hl 0 rfl) ?_
  refine lv_iload_n hx hb dX8_coin_1 rfl (lv_at hl 1 rfl) ?_
  replace h := bd_el h
  obtain ⟨r1, hc2, h⟩ := h
  refine callVI (rest := []) ⟨hx, hb, hml, hown, hts⟩ (ctX8_isKind l D cI cZ cB cS kK kV _ qt qt_w qt_isKept qt_value qt_weight qt_newTube qt_newPrice qt_newLow qt_newHigh qt_newGoods qt_rhythm qt_rhythmLong qt_slug qt_text qt_of qt_buyerColumn qt_buyerKind qt_buyerCoins qt_tryRow qt_tryLong qt_tryFree it_kinds it_columns it_slugs it_newKinds it_newColumns it_newSlugs it_rhythmTold it_textSize it_at it_first it_length it_faultOf it_fault it_buyerMany it_tryMany x1 N r1 hc2) (cwV 1 hts gX8_coin_X8_isKind rfl rfl rfl hdX8_isKind ⟨Nat.le_of_ble_eq_true rfl, Nat.le_of_ble_eq_true rfl⟩) hK hN hX hP (dF hD rfl) hS hA [0] (mcC rfl mcN) (by decide +kernel) [(qt, .inr (8, [.ref qt_w, .ref qt_isKept, .ref qt_value, .ref qt_weight, .ref qt_newTube, .ref qt_newPrice, .ref qt_newLow, .ref qt_newHigh, .ref qt_newGoods, .ref qt_rhythm, .ref qt_rhythmLong, .ref qt_slug, .int it_kinds, .int it_columns, .int it_slugs, .int it_newKinds, .int it_newColumns, .int it_newSlugs, .int it_rhythmTold, .ref qt_text, .int it_textSize, .int it_at, .int it_first, .int it_length, .int it_faultOf, .int it_fault, .ref qt_of, .ref qt_buyerColumn, .ref qt_buyerKind, .ref qt_buyerCoins, .int it_buyerMany, .ref qt_tryRow, .ref qt_tryLong, .ref qt_tryFree, .int it_tryMany])), (qt_value, .inl (cI, 10, .inl ft_value)), (qt_weight, .inl (cI, 10, .inl ft_weight)), (qt_w, .inl (cI, 240, .inl ft_w))] [1, 2, 3] (mcC rfl mcN) ((mcC rfl (mcC rfl (mcC rfl mcN))).trans (mcC rfl (mcC rfl (mcC rfl mcN))).symm) 4 rfl (by decide +kernel) (va_recv hK hP (ci := 8) (q0 := 0) rfl rfl) rfl hl.1 rfl (Nat.le_of_ble_eq_true rfl) ⟨Nat.zero_le _, Nat.zero_le _⟩ dX8_coin_2 (fun H locs hP hS => ?_)
  refine lv_if_ne (tgt := 11) hx hb dX8_coin_5 (by decide) (fun c3 => ?_) (fun c3 => ?_)
  · replace h := if_f c3 h
    refine lv_iload_n hx hb dX8_coin_11 rfl (lv_at hl 2 rfl) ?_
    by_cases c4 : x2 = 0
    · replace h := if_t c4 h
      refine lv_tableIn (off := 36) (tgt := 48) hx hb dX8_coin_12 (by rw [c4]; decide) (by rw [c4]; decide) (by rw [c4]; rfl) (by decide) ?_
      refine lv_aload_n hx hb dX8_coin_48 rfl (lv_at hl 0 rfl) ?_
      refine va_get (ci := 8) (v := .ref qt_value) (C := RX8) (T := TX8) (N := 35) hx hb hts hiX8 hown hK hP 0 rfl rfl 2 (by decide) fl17 (fun _ h9 => h9) rfl dX8_coin_49 ?_
      refine lv_iload_n hx hb dX8_coin_52 rfl (lv_at hl 1 rfl) ?_
      replace h := ck_el h
      obtain ⟨hi5, h⟩ := h
      refine va_iald hx hb hK hP 1 0 rfl rfl hi5 dX8_coin_53 ?_
      refine lv_topi (fun n6 en6 => ?_)
      replace h := lt_at en6 h
      simp only [Option.some.injEq] at h
      subst h
      exact hret _ _ _ _ hP hS rfl dX8_coin_54
    replace h := if_f c4 h
    by_cases c7 : x2 = 1
    · replace h := if_t c7 h
      refine lv_tableIn (off := 43) (tgt := 55) hx hb dX8_coin_12 (by rw [c7]; decide) (by rw [c7]; decide) (by rw [c7]; rfl) (by decide) ?_
      refine lv_aload_n hx hb dX8_coin_55 rfl (lv_at hl 0 rfl) ?_
      refine va_get (ci := 8) (v := .ref qt_weight) (C := RX8) (T := TX8) (N := 35) hx hb hts hiX8 hown hK hP 0 rfl rfl 3 (by decide) fl20 (fun _ h9 => h9) rfl dX8_coin_56 ?_
      refine lv_iload_n hx hb dX8_coin_59 rfl (lv_at hl 1 rfl) ?_
      replace h := ck_el h
      obtain ⟨hi8, h⟩ := h
      refine va_iald hx hb hK hP 2 0 rfl rfl hi8 dX8_coin_60 ?_
      refine lv_topi (fun n9 en9 => ?_)
      replace h := lt_at en9 h
      simp only [Option.some.injEq] at h
      subst h
      exact hret _ _ _ _ hP hS rfl dX8_coin_61
    replace h := if_f c7 h
    by_cases c10 : x2 = 2
    · replace h := if_t c10 h
      refine lv_tableIn (off := 50) (tgt := 62) hx hb dX8_coin_12 (by rw [c10]; decide) (by rw [c10]; decide) (by rw [c10]; rfl) (by decide) ?_
      refine lv_aload_n hx hb dX8_coin_62 rfl (lv_at hl 0 rfl) ?_
      refine lv_iconst (v := 0) hx hb dX8_coin_63 (by decide) ?_
      refine lv_iload_n hx hb dX8_coin_64 rfl (lv_at hl 1 rfl) ?_
      replace h := bd_el h
      obtain ⟨r11, hc12, h⟩ := h
      refine callVI (rest := []) ⟨hx, hb, hml, hown, hts⟩ (ctX8_weightIn l D cI cZ cB cS kK kV _ qt qt_w qt_isKept qt_value qt_weight qt_newTube qt_newPrice qt_newLow qt_newHigh qt_newGoods qt_rhythm qt_rhythmLong qt_slug qt_text qt_of qt_buyerColumn qt_buyerKind qt_buyerCoins qt_tryRow qt_tryLong qt_tryFree it_kinds it_columns it_slugs it_newKinds it_newColumns it_newSlugs it_rhythmTold it_textSize it_at it_first it_length it_faultOf it_fault it_buyerMany it_tryMany ft_weight ft_w 0 x1 N r11 hc12) (cwV 2 hts gX8_coin_X8_weightIn rfl rfl rfl hdX8_weightIn ⟨Nat.le_of_ble_eq_true rfl, Nat.le_of_ble_eq_true rfl⟩) hK hN hX hP (dF hD rfl) hS hA [0, 2, 3] (mcC rfl (mcC rfl (mcC rfl mcN))) (by decide +kernel) [(qt, .inr (8, [.ref qt_w, .ref qt_isKept, .ref qt_value, .ref qt_weight, .ref qt_newTube, .ref qt_newPrice, .ref qt_newLow, .ref qt_newHigh, .ref qt_newGoods, .ref qt_rhythm, .ref qt_rhythmLong, .ref qt_slug, .int it_kinds, .int it_columns, .int it_slugs, .int it_newKinds, .int it_newColumns, .int it_newSlugs, .int it_rhythmTold, .ref qt_text, .int it_textSize, .int it_at, .int it_first, .int it_length, .int it_faultOf, .int it_fault, .ref qt_of, .ref qt_buyerColumn, .ref qt_buyerKind, .ref qt_buyerCoins, .int it_buyerMany, .ref qt_tryRow, .ref qt_tryLong, .ref qt_tryFree, .int it_tryMany])), (qt_value, .inl (cI, 10, .inl ft_value)), (qt_weight, .inl (cI, 10, .inl ft_weight)), (qt_w, .inl (cI, 240, .inl ft_w))] [1] (mcC rfl (mcC rfl (mcC rfl mcN))) ((mcC rfl mcN).trans (mcC rfl mcN).symm) 4 rfl (by decide +kernel) (va_recv hK hP (ci := 8) (q0 := 0) rfl rfl) rfl hl.1 rfl (Nat.le_of_ble_eq_true rfl) ⟨Nat.zero_le _, Nat.zero_le _⟩ dX8_coin_65 (fun H locs hP hS => ?_)
      simp only [Option.some.injEq] at h
      subst h
      exact hret _ _ _ _ hP hS rfl dX8_coin_68
    replace h := if_f c10 h
    by_cases c13 : x2 = 3
    · replace h := if_t c13 h
      refine lv_tableIn (off := 57) (tgt := 69) hx hb dX8_coin_12 (by rw [c13]; decide) (by rw [c13]; decide) (by rw [c13]; rfl) (by decide) ?_
      refine lv_aload_n hx hb dX8_coin_69 rfl (lv_at hl 0 rfl) ?_
      refine va_get (ci := 8) (v := .ref qt_w) (C := RX8) (T := TX8) (N := 35) hx hb hts hiX8 hown hK hP 0 rfl rfl 0 (by decide) fl7 (fun _ h9 => h9) rfl dX8_coin_70 ?_
      refine lv_iload_n hx hb dX8_coin_73 rfl (lv_at hl 1 rfl) ?_
      replace h := ck_el h
      obtain ⟨hi14, h⟩ := h
      refine va_iald hx hb hK hP 3 0 rfl rfl hi14 dX8_coin_74 ?_
      refine lv_topi (fun n15 en15 => ?_)
      replace h := lt_at en15 h
      simp only [Option.some.injEq] at h
      subst h
      exact hret _ _ _ _ hP hS rfl dX8_coin_75
    replace h := if_f c13 h
    by_cases c16 : x2 = 4
    · replace h := if_t c16 h
      refine lv_tableIn (off := 64) (tgt := 76) hx hb dX8_coin_12 (by rw [c16]; decide) (by rw [c16]; decide) (by rw [c16]; rfl) (by decide) ?_
      refine lv_aload_n hx hb dX8_coin_76 rfl (lv_at hl 0 rfl) ?_
      refine lv_iload_n hx hb dX8_coin_77 rfl (lv_at hl 1 rfl) ?_
      replace h := bd_el h
      obtain ⟨r17, hc18, h⟩ := h
      refine callVI (rest := []) ⟨hx, hb, hml, hown, hts⟩ (ctX8_passedBy l D cI cZ cB cS kK kV _ qt qt_w qt_isKept qt_value qt_weight qt_newTube qt_newPrice qt_newLow qt_newHigh qt_newGoods qt_rhythm qt_rhythmLong qt_slug qt_text qt_of qt_buyerColumn qt_buyerKind qt_buyerCoins qt_tryRow qt_tryLong qt_tryFree it_kinds it_columns it_slugs it_newKinds it_newColumns it_newSlugs it_rhythmTold it_textSize it_at it_first it_length it_faultOf it_fault it_buyerMany it_tryMany ft_weight ft_w x1 N r17 hc18) (cwV 1 hts gX8_coin_X8_passedBy rfl rfl rfl hdX8_passedBy ⟨Nat.le_of_ble_eq_true rfl, Nat.le_of_ble_eq_true rfl⟩) hK hN hX hP (dF hD rfl) hS hA [0, 2, 3] (mcC rfl (mcC rfl (mcC rfl mcN))) (by decide +kernel) [(qt, .inr (8, [.ref qt_w, .ref qt_isKept, .ref qt_value, .ref qt_weight, .ref qt_newTube, .ref qt_newPrice, .ref qt_newLow, .ref qt_newHigh, .ref qt_newGoods, .ref qt_rhythm, .ref qt_rhythmLong, .ref qt_slug, .int it_kinds, .int it_columns, .int it_slugs, .int it_newKinds, .int it_newColumns, .int it_newSlugs, .int it_rhythmTold, .ref qt_text, .int it_textSize, .int it_at, .int it_first, .int it_length, .int it_faultOf, .int it_fault, .ref qt_of, .ref qt_buyerColumn, .ref qt_buyerKind, .ref qt_buyerCoins, .int it_buyerMany, .ref qt_tryRow, .ref qt_tryLong, .ref qt_tryFree, .int it_tryMany])), (qt_value, .inl (cI, 10, .inl ft_value)), (qt_weight, .inl (cI, 10, .inl ft_weight)), (qt_w, .inl (cI, 240, .inl ft_w))] [1] (mcC rfl (mcC rfl (mcC rfl mcN))) ((mcC rfl mcN).trans (mcC rfl mcN).symm) 4 rfl (by decide +kernel) (va_recv hK hP (ci := 8) (q0 := 0) rfl rfl) rfl hl.1 rfl (Nat.le_of_ble_eq_true rfl) ⟨Nat.zero_le _, Nat.zero_le _⟩ dX8_coin_78 (fun H locs hP hS => ?_)
      simp only [Option.some.injEq] at h
      subst h
      exact hret _ _ _ _ hP hS rfl dX8_coin_81
    replace h := if_f c16 h
    have tc4 : (x2 : Int32).toInt ≠ 0 := sw_ne c4
    have tc7 : (x2 : Int32).toInt ≠ 1 := sw_ne c7
    have tc10 : (x2 : Int32).toInt ≠ 2 := sw_ne c10
    have tc13 : (x2 : Int32).toInt ≠ 3 := sw_ne c13
    have tc16 : (x2 : Int32).toInt ≠ 4 := sw_ne c16
    refine lv_tableOut (tgt := 82) hx hb dX8_coin_12 (by omega) (by decide) ?_
    refine lv_ldc (v := (-1000000002)) hx hb hown cn81 dX8_coin_82 ?_
    simp only [Option.some.injEq] at h
    subst h
    exact hret _ _ _ _ hP hS rfl dX8_coin_84
  · replace h := if_t c3 h
    refine lv_ldc (v := (-1000000001)) hx hb hown cn193 dX8_coin_8 ?_
    simp only [Option.some.injEq] at h
    subst h
    exact hret _ _ _ _ hP hS rfl dX8_coin_10
theorem hdX8_coin : yX8_coin.cls = RX8 ∧ yX8_coin.cls ≠ "java/lang/invoke/MethodHandle" ∧ yX8_coin.cls ≠ "java/lang/invoke/VarHandle" ∧ (parseMethodDescriptor yX8_coin.desc).map (fun d => d.parameters.length) = some 2 := by decide +kernel

noncomputable def fX8_passers_L5 (N : Nat) : Nat → Int32 → Int32 → Int32 → Int32 → Int32 → Int32 → (Nat → Int32) → (Nat → Int32) → (Nat → Int32) → Option (Int32)
  | 0, _, _, _, _, _, _, _, _, _ => none
  | k + 1, x1, x2, x3, x4, it_kinds, it_slugs, ft_weight, ft_w, ft_slug => (if x2 = 0 then (if it_kinds ≤ x4 then some x3 else (if x2 = 0 then bd (fX8_weightIn N ft_weight ft_w 0 x4) fun r4 => bd (fX8_passes N ft_w 0 x1 r4) fun r6 => bd (fX8_one N r6) fun r8 => lt (x3 ||| (r8 <<< (x4 &&& 31))) fun n10 => lt (x4 + 1) fun n11 => fX8_passers_L5 N k x1 x2 n10 n11 it_kinds it_slugs ft_weight ft_w ft_slug else ck x4 10 (bd (fX8_passes N ft_w 0 x1 (ft_slug (Int32.toNatClampNeg x4))) fun r13 => bd (fX8_one N r13) fun r15 => lt (x3 ||| (r15 <<< (x4 &&& 31))) fun n17 => lt (x4 + 1) fun n18 => fX8_passers_L5 N k x1 x2 n17 n18 it_kinds it_slugs ft_weight ft_w ft_slug))) else (if it_slugs ≤ x4 then some x3 else (if x2 = 0 then bd (fX8_weightIn N ft_weight ft_w 0 x4) fun r21 => bd (fX8_passes N ft_w 0 x1 r21) fun r23 => bd (fX8_one N r23) fun r25 => lt (x3 ||| (r25 <<< (x4 &&& 31))) fun n27 => lt (x4 + 1) fun n28 => fX8_passers_L5 N k x1 x2 n27 n28 it_kinds it_slugs ft_weight ft_w ft_slug else ck x4 10 (bd (fX8_passes N ft_w 0 x1 (ft_slug (Int32.toNatClampNeg x4))) fun r30 => bd (fX8_one N r30) fun r32 => lt (x3 ||| (r32 <<< (x4 &&& 31))) fun n34 => lt (x4 + 1) fun n35 => fX8_passers_L5 N k x1 x2 n34 n35 it_kinds it_slugs ft_weight ft_w ft_slug))))
theorem fX8_passers_L5_s (N : Nat) (k : Nat) (x1 : Int32) (x2 : Int32) (x3 : Int32) (x4 : Int32) (it_kinds : Int32) (it_slugs : Int32) (ft_weight : Nat → Int32) (ft_w : Nat → Int32) (ft_slug : Nat → Int32) : fX8_passers_L5 N (k + 1) x1 x2 x3 x4 it_kinds it_slugs ft_weight ft_w ft_slug = ((if x2 = 0 then (if it_kinds ≤ x4 then some x3 else (if x2 = 0 then bd (fX8_weightIn N ft_weight ft_w 0 x4) fun r4 => bd (fX8_passes N ft_w 0 x1 r4) fun r6 => bd (fX8_one N r6) fun r8 => lt (x3 ||| (r8 <<< (x4 &&& 31))) fun n10 => lt (x4 + 1) fun n11 => fX8_passers_L5 N k x1 x2 n10 n11 it_kinds it_slugs ft_weight ft_w ft_slug else ck x4 10 (bd (fX8_passes N ft_w 0 x1 (ft_slug (Int32.toNatClampNeg x4))) fun r13 => bd (fX8_one N r13) fun r15 => lt (x3 ||| (r15 <<< (x4 &&& 31))) fun n17 => lt (x4 + 1) fun n18 => fX8_passers_L5 N k x1 x2 n17 n18 it_kinds it_slugs ft_weight ft_w ft_slug))) else (if it_slugs ≤ x4 then some x3 else (if x2 = 0 then bd (fX8_weightIn N ft_weight ft_w 0 x4) fun r21 => bd (fX8_passes N ft_w 0 x1 r21) fun r23 => bd (fX8_one N r23) fun r25 => lt (x3 ||| (r25 <<< (x4 &&& 31))) fun n27 => lt (x4 + 1) fun n28 => fX8_passers_L5 N k x1 x2 n27 n28 it_kinds it_slugs ft_weight ft_w ft_slug else ck x4 10 (bd (fX8_passes N ft_w 0 x1 (ft_slug (Int32.toNatClampNeg x4))) fun r30 => bd (fX8_one N r30) fun r32 => lt (x3 ||| (r32 <<< (x4 &&& 31))) fun n34 => lt (x4 + 1) fun n35 => fX8_passers_L5 N k x1 x2 n34 n35 it_kinds it_slugs ft_weight ft_w ft_slug))))) := rfl
noncomputable def fX8_passers (N : Nat) (it_kinds : Int32) (it_slugs : Int32) (ft_weight : Nat → Int32) (ft_w : Nat → Int32) (ft_slug : Nat → Int32) (x1 : Int32) (x2 : Int32) : Option (Int32) := bd (fX8_passers_L5 N N x1 x2 0 0 it_kinds it_slugs ft_weight ft_w ft_slug) fun n37 => some n37
set_option maxHeartbeats 4000000 in
set_option maxRecDepth 100000 in
theorem ctX8_passers (l : Launch) (D : va_G) (cI cZ cB cS : ClassId) (kK kV : Nat → Nat) (sz : Nat) (qt qt_w qt_isKept qt_value qt_weight qt_newTube qt_newPrice qt_newLow qt_newHigh qt_newGoods qt_rhythm qt_rhythmLong qt_slug qt_text qt_of qt_buyerColumn qt_buyerKind qt_buyerCoins qt_tryRow qt_tryLong qt_tryFree : Nat) (it_kinds : Int32) (it_columns : Int32) (it_slugs : Int32) (it_newKinds : Int32) (it_newColumns : Int32) (it_newSlugs : Int32) (it_rhythmTold : Int32) (it_textSize : Int32) (it_at : Int32) (it_first : Int32) (it_length : Int32) (it_faultOf : Int32) (it_fault : Int32) (it_buyerMany : Int32) (it_tryMany : Int32) (ft_weight : Nat → Int32) (ft_w : Nat → Int32) (ft_slug : Nat → Int32) (x1 : Int32) (x2 : Int32) (N : Nat) (r0 : Int32)  (h : fX8_passers N it_kinds it_slugs ft_weight ft_w ft_slug x1 x2 = some r0) : CtI l yX8_passers wsX8_passers { frames := 2, cells := 0, slots := 0, locals := 48 } D (TY cI cZ cB cS) kK kV [.ref qt, .int x1, .int x2] [(qt, .inr (8, [.ref qt_w, .ref qt_isKept, .ref qt_value, .ref qt_weight, .ref qt_newTube, .ref qt_newPrice, .ref qt_newLow, .ref qt_newHigh, .ref qt_newGoods, .ref qt_rhythm, .ref qt_rhythmLong, .ref qt_slug, .int it_kinds, .int it_columns, .int it_slugs, .int it_newKinds, .int it_newColumns, .int it_newSlugs, .int it_rhythmTold, .ref qt_text, .int it_textSize, .int it_at, .int it_first, .int it_length, .int it_faultOf, .int it_fault, .ref qt_of, .ref qt_buyerColumn, .ref qt_buyerKind, .ref qt_buyerCoins, .int it_buyerMany, .ref qt_tryRow, .ref qt_tryLong, .ref qt_tryFree, .int it_tryMany])), (qt_weight, .inl (cI, 10, .inl ft_weight)), (qt_w, .inl (cI, 240, .inl ft_w)), (qt_slug, .inl (cI, 10, .inl ft_slug))] [(qt, .inr (8, [.ref qt_w, .ref qt_isKept, .ref qt_value, .ref qt_weight, .ref qt_newTube, .ref qt_newPrice, .ref qt_newLow, .ref qt_newHigh, .ref qt_newGoods, .ref qt_rhythm, .ref qt_rhythmLong, .ref qt_slug, .int it_kinds, .int it_columns, .int it_slugs, .int it_newKinds, .int it_newColumns, .int it_newSlugs, .int it_rhythmTold, .ref qt_text, .int it_textSize, .int it_at, .int it_first, .int it_length, .int it_faultOf, .int it_fault, .ref qt_of, .ref qt_buyerColumn, .ref qt_buyerKind, .ref qt_buyerCoins, .int it_buyerMany, .ref qt_tryRow, .ref qt_tryLong, .ref qt_tryFree, .int it_tryMany])), (qt_weight, .inl (cI, 10, .inl ft_weight)), (qt_w, .inl (cI, 240, .inl ft_w)), (qt_slug, .inl (cI, 10, .inl ft_slug))] sz r0 := by
  refine mkI (cc := cX8_passers) (maxL := 5) (rt := .int) (own := RX8) (by decide) rfl rfl (Nat.le_of_ble_eq_true rfl) ?_
  intro p e s m args below meth c A Z ls hx hb hml hown hts hK hN hX hP hD hA hS hret hl
  have hl : lv_has ls 5 [(0, .ref qt), (1, .int x1), (2, .int x2)] := hl
  have fl164 : (Cond.fieldLink RX8 164 "SoupWallModel" "kinds" "I").before args s = true := hts _ (List.mem_of_getElem? (l := wsX8_passers) (i := 2) rfl)
  have hiX8 : ∀ w ∈ wsX80, w ∈ wsX8_passers := fun w h => List.mem_cons_of_mem _ (List.mem_append_right _ h)
  have fl44 : (Cond.fieldLink RX8 44 "SoupWallModel" "slug" "[I").before args s = true := hts _ (List.mem_of_getElem? (l := wsX8_passers) (i := 3) rfl)
  have fl170 : (Cond.fieldLink RX8 170 "SoupWallModel" "slugs" "I").before args s = true := hts _ (List.mem_of_getElem? (l := wsX8_passers) (i := 1) rfl)
  have lp5 : ∀ (k : Nat) (x1 : Int32) (x2 : Int32) (x3 : Int32) (x4 : Int32)  (H : Heap) (locs : List Loc) (ls : Array Slot) (o : Int32), fX8_passers_L5 N k x1 x2 x3 x4 it_kinds it_slugs ft_weight ft_w ft_slug = some o → va_P D vwCl [(qt, .inr (8, [.ref qt_w, .ref qt_isKept, .ref qt_value, .ref qt_weight, .ref qt_newTube, .ref qt_newPrice, .ref qt_newLow, .ref qt_newHigh, .ref qt_newGoods, .ref qt_rhythm, .ref qt_rhythmLong, .ref qt_slug, .int it_kinds, .int it_columns, .int it_slugs, .int it_newKinds, .int it_newColumns, .int it_newSlugs, .int it_rhythmTold, .ref qt_text, .int it_textSize, .int it_at, .int it_first, .int it_length, .int it_faultOf, .int it_fault, .ref qt_of, .ref qt_buyerColumn, .ref qt_buyerKind, .ref qt_buyerCoins, .int it_buyerMany, .ref qt_tryRow, .ref qt_tryLong, .ref qt_tryFree, .int it_tryMany])), (qt_weight, .inl (cI, 10, .inl ft_weight)), (qt_w, .inl (cI, 240, .inl ft_w)), (qt_slug, .inl (cI, 10, .inl ft_slug))] H → va_S A s.heap H locs → lv_has ls 5 [(0, .ref qt), (1, .int x1), (2, .int x2), (3, .int x3), (4, .int x4)] → (∀ (e3 : Int32), e3 = o → ∀ (H : Heap) (locs : List Loc) (ls : Array Slot), va_P D vwCl [(qt, .inr (8, [.ref qt_w, .ref qt_isKept, .ref qt_value, .ref qt_weight, .ref qt_newTube, .ref qt_newPrice, .ref qt_newLow, .ref qt_newHigh, .ref qt_newGoods, .ref qt_rhythm, .ref qt_rhythmLong, .ref qt_slug, .int it_kinds, .int it_columns, .int it_slugs, .int it_newKinds, .int it_newColumns, .int it_newSlugs, .int it_rhythmTold, .ref qt_text, .int it_textSize, .int it_at, .int it_first, .int it_length, .int it_faultOf, .int it_fault, .ref qt_of, .ref qt_buyerColumn, .ref qt_buyerKind, .ref qt_buyerCoins, .int it_buyerMany, .ref qt_tryRow, .ref qt_tryLong, .ref qt_tryFree, .int it_tryMany])), (qt_weight, .inl (cI, 10, .inl ft_weight)), (qt_w, .inl (cI, 240, .inl ft_w)), (qt_slug, .inl (cI, 10, .inl ft_slug))] H → va_S A s.heap H locs → lv_has ls 5 [(3, .int e3)] → W p l e ({ frames := 2, cells := 0, slots := 0, locals := 48 } : Room) s m args below meth c H locs 0 0 Z (F0 m 67 ls [])) → W p l e ({ frames := 2, cells := 0, slots := 0, locals := 48 } : Room) s m args below meth c H locs 0 0 Z (F0 m 5 ls []) := by
    intro k
    induction k with
    | zero =>
      intro x1 x2 x3 x4 H locs ls o h
      exact nomatch (show (none : Option (Int32)) = some o from h)
    | succ k ih =>
      intro x1 x2 x3 x4 H locs ls o h hP hS hl K
      rw [fX8_passers_L5_s] at h
      refine lv_iload hx hb dX8_passers_5 (lv_at hl 4 rfl) ?_
      refine lv_iload_n hx hb dX8_passers_7 rfl (lv_at hl 2 rfl) ?_
      refine lv_if_eq (tgt := 18) hx hb dX8_passers_8 (by decide) (fun c1 => ?_) (fun c1 => ?_)
      · replace h := if_t c1 h
        refine lv_aload_n hx hb dX8_passers_18 rfl (lv_at hl 0 rfl) ?_
        refine va_get (ci := 8) (v := .int it_kinds) (C := RX8) (T := TX8) (N := 35) hx hb hts hiX8 hown hK hP 0 rfl rfl 12 (by decide) fl164 (fun _ h9 => h9) rfl dX8_passers_19 ?_
        refine lv_icmp_ge (tgt := 67) hx hb dX8_passers_22 (by decide) (fun c2 => ?_) (fun c2 => ?_)
        · replace h := if_t c2 h
          exact K x3 (Option.some.inj h) _ _ _ hP hS (lv_sub hl [3] rfl)
        · replace h := if_f c2 h
          refine lv_iload_n hx hb dX8_passers_25 rfl (lv_at hl 3 rfl) ?_
          refine lv_aload_n hx hb dX8_passers_26 rfl (lv_at hl 0 rfl) ?_
          refine lv_iconst (v := 0) hx hb dX8_passers_27 (by decide) ?_
          refine lv_iload_n hx hb dX8_passers_28 rfl (lv_at hl 1 rfl) ?_
          refine lv_iload_n hx hb dX8_passers_29 rfl (lv_at hl 2 rfl) ?_
          refine lv_if_eq (tgt := 43) hx hb dX8_passers_30 (by decide) (fun c3 => ?_) (fun c3 => ?_)
          · replace h := if_t c3 h
            refine lv_aload_n hx hb dX8_passers_43 rfl (lv_at hl 0 rfl) ?_
            refine lv_iconst (v := 0) hx hb dX8_passers_44 (by decide) ?_
            refine lv_iload hx hb dX8_passers_45 (lv_at hl 4 rfl) ?_
            replace h := bd_el h
            obtain ⟨r4, hc5, h⟩ := h
            refine callVI (rest := [.int x1, .int 0, .ref qt, .int x3]) ⟨hx, hb, hml, hown, hts⟩ (ctX8_weightIn l D cI cZ cB cS kK kV _ qt qt_w qt_isKept qt_value qt_weight qt_newTube qt_newPrice qt_newLow qt_newHigh qt_newGoods qt_rhythm qt_rhythmLong qt_slug qt_text qt_of qt_buyerColumn qt_buyerKind qt_buyerCoins qt_tryRow qt_tryLong qt_tryFree it_kinds it_columns it_slugs it_newKinds it_newColumns it_newSlugs it_rhythmTold it_textSize it_at it_first it_length it_faultOf it_fault it_buyerMany it_tryMany ft_weight ft_w 0 x4 N r4 hc5) (cwV 2 hts gX8_passers_X8_weightIn rfl rfl rfl hdX8_weightIn ⟨Nat.le_of_ble_eq_true rfl, Nat.le_of_ble_eq_true rfl⟩) hK hN hX hP (dF hD rfl) hS hA [0, 1, 2] (mcC rfl (mcC rfl (mcC rfl mcN))) (by decide +kernel) [(qt, .inr (8, [.ref qt_w, .ref qt_isKept, .ref qt_value, .ref qt_weight, .ref qt_newTube, .ref qt_newPrice, .ref qt_newLow, .ref qt_newHigh, .ref qt_newGoods, .ref qt_rhythm, .ref qt_rhythmLong, .ref qt_slug, .int it_kinds, .int it_columns, .int it_slugs, .int it_newKinds, .int it_newColumns, .int it_newSlugs, .int it_rhythmTold, .ref qt_text, .int it_textSize, .int it_at, .int it_first, .int it_length, .int it_faultOf, .int it_fault, .ref qt_of, .ref qt_buyerColumn, .ref qt_buyerKind, .ref qt_buyerCoins, .int it_buyerMany, .ref qt_tryRow, .ref qt_tryLong, .ref qt_tryFree, .int it_tryMany])), (qt_weight, .inl (cI, 10, .inl ft_weight)), (qt_w, .inl (cI, 240, .inl ft_w)), (qt_slug, .inl (cI, 10, .inl ft_slug))] [3] (mcC rfl (mcC rfl (mcC rfl mcN))) ((mcC rfl mcN).trans (mcC rfl mcN).symm) 4 rfl (by decide +kernel) (va_recv hK hP (ci := 8) (q0 := 0) rfl rfl) rfl hl.1 rfl (Nat.le_of_ble_eq_true rfl) ⟨Nat.zero_le _, Nat.zero_le _⟩ dX8_passers_47 (fun H locs hP hS => ?_)
            replace h := bd_el h
            obtain ⟨r6, hc7, h⟩ := h
            refine callVI (rest := [.int x3]) ⟨hx, hb, hml, hown, hts⟩ (ctX8_passes l D cI cZ cB cS kK kV _ qt qt_w qt_isKept qt_value qt_weight qt_newTube qt_newPrice qt_newLow qt_newHigh qt_newGoods qt_rhythm qt_rhythmLong qt_slug qt_text qt_of qt_buyerColumn qt_buyerKind qt_buyerCoins qt_tryRow qt_tryLong qt_tryFree it_kinds it_columns it_slugs it_newKinds it_newColumns it_newSlugs it_rhythmTold it_textSize it_at it_first it_length it_faultOf it_fault it_buyerMany it_tryMany ft_w 0 x1 r4 N r6 hc7) (cwV 3 hts gX8_passers_X8_passes rfl rfl rfl hdX8_passes ⟨Nat.le_of_ble_eq_true rfl, Nat.le_of_ble_eq_true rfl⟩) hK hN hX hP (dF hD rfl) hS hA [0, 2] (mcC rfl (mcC rfl mcN)) (by decide +kernel) [(qt, .inr (8, [.ref qt_w, .ref qt_isKept, .ref qt_value, .ref qt_weight, .ref qt_newTube, .ref qt_newPrice, .ref qt_newLow, .ref qt_newHigh, .ref qt_newGoods, .ref qt_rhythm, .ref qt_rhythmLong, .ref qt_slug, .int it_kinds, .int it_columns, .int it_slugs, .int it_newKinds, .int it_newColumns, .int it_newSlugs, .int it_rhythmTold, .ref qt_text, .int it_textSize, .int it_at, .int it_first, .int it_length, .int it_faultOf, .int it_fault, .ref qt_of, .ref qt_buyerColumn, .ref qt_buyerKind, .ref qt_buyerCoins, .int it_buyerMany, .ref qt_tryRow, .ref qt_tryLong, .ref qt_tryFree, .int it_tryMany])), (qt_weight, .inl (cI, 10, .inl ft_weight)), (qt_w, .inl (cI, 240, .inl ft_w)), (qt_slug, .inl (cI, 10, .inl ft_slug))] [1, 3] (mcC rfl (mcC rfl mcN)) ((mcC rfl (mcC rfl mcN)).trans (mcC rfl (mcC rfl mcN)).symm) 4 rfl (by decide +kernel) (va_recv hK hP (ci := 8) (q0 := 0) rfl rfl) rfl hl.1 rfl (Nat.le_of_ble_eq_true rfl) ⟨Nat.zero_le _, Nat.zero_le _⟩ dX8_passers_50 (fun H locs hP hS => ?_)
            replace h := bd_el h
            obtain ⟨r8, hc9, h⟩ := h
            refine callSI (rest := [.int x3]) ⟨hx, hb, hml, hown, hts⟩ (ctX8_one l D cI cZ cB cS kK kV _ r6 N r8 hc9) (va_cwS 1 hts gX8_passers_X8_one rfl rfl rfl hdX8_one ⟨Nat.le_of_ble_eq_true rfl, Nat.le_of_ble_eq_true rfl⟩) hK hN hX hP (dF hD rfl) hS hA [] mcN (by decide +kernel) [(qt, .inr (8, [.ref qt_w, .ref qt_isKept, .ref qt_value, .ref qt_weight, .ref qt_newTube, .ref qt_newPrice, .ref qt_newLow, .ref qt_newHigh, .ref qt_newGoods, .ref qt_rhythm, .ref qt_rhythmLong, .ref qt_slug, .int it_kinds, .int it_columns, .int it_slugs, .int it_newKinds, .int it_newColumns, .int it_newSlugs, .int it_rhythmTold, .ref qt_text, .int it_textSize, .int it_at, .int it_first, .int it_length, .int it_faultOf, .int it_fault, .ref qt_of, .ref qt_buyerColumn, .ref qt_buyerKind, .ref qt_buyerCoins, .int it_buyerMany, .ref qt_tryRow, .ref qt_tryLong, .ref qt_tryFree, .int it_tryMany])), (qt_weight, .inl (cI, 10, .inl ft_weight)), (qt_w, .inl (cI, 240, .inl ft_w)), (qt_slug, .inl (cI, 10, .inl ft_slug))] [0, 1, 2, 3] mcN ((mcC rfl (mcC rfl (mcC rfl (mcC rfl mcN)))).trans (mcC rfl (mcC rfl (mcC rfl (mcC rfl mcN)))).symm) 4 rfl (by decide +kernel) rfl hl.1 rfl (Nat.le_of_ble_eq_true rfl) ⟨Nat.zero_le _, Nat.zero_le _⟩ dX8_passers_53 (fun H locs hP hS => ?_)
            refine lv_iload hx hb dX8_passers_56 (lv_at hl 4 rfl) ?_
            refine lv_ishl hx hb dX8_passers_58 ?_
            refine lv_ior hx hb dX8_passers_59 ?_
            refine lv_topi (fun n10 en10 => ?_)
            replace h := lt_at en10 h
            refine lv_istore_n (lv' := [(3, .int n10), (0, .ref qt), (1, .int x1), (2, .int x2), (4, .int x4)]) hx hb dX8_passers_60 rfl hl (by decide) rfl (fun ls hl => ?_)
            obtain ⟨n11, en11⟩ : ∃ z : Int32, z = x4 + 1 := ⟨_, rfl⟩
            replace h := lt_at en11 h
            refine lv_iinc (v := n11) (lv' := [(4, .int n11), (3, .int n10), (0, .ref qt), (1, .int x1), (2, .int x2)]) hx hb dX8_passers_61 hl (k := 4) rfl (by rw [en11]; rfl) (by decide) rfl (fun ls hl => ?_)
            refine lv_goto (tgt := 5) hx hb dX8_passers_64 (by decide) ?_
            exact ih x1 x2 n10 n11 _ _ _ o h hP hS (lv_sub hl [2, 3, 4, 1, 0] rfl) K
          · replace h := if_f c3 h
            refine lv_aload_n hx hb dX8_passers_33 rfl (lv_at hl 0 rfl) ?_
            refine va_get (ci := 8) (v := .ref qt_slug) (C := RX8) (T := TX8) (N := 35) hx hb hts hiX8 hown hK hP 0 rfl rfl 11 (by decide) fl44 (fun _ h9 => h9) rfl dX8_passers_34 ?_
            refine lv_iload hx hb dX8_passers_37 (lv_at hl 4 rfl) ?_
            replace h := ck_el h
            obtain ⟨hi12, h⟩ := h
            refine va_iald hx hb hK hP 3 0 rfl rfl hi12 dX8_passers_39 ?_
            refine lv_goto (tgt := 50) hx hb dX8_passers_40 (by decide) ?_
            replace h := bd_el h
            obtain ⟨r13, hc14, h⟩ := h
            refine callVI (rest := [.int x3]) ⟨hx, hb, hml, hown, hts⟩ (ctX8_passes l D cI cZ cB cS kK kV _ qt qt_w qt_isKept qt_value qt_weight qt_newTube qt_newPrice qt_newLow qt_newHigh qt_newGoods qt_rhythm qt_rhythmLong qt_slug qt_text qt_of qt_buyerColumn qt_buyerKind qt_buyerCoins qt_tryRow qt_tryLong qt_tryFree it_kinds it_columns it_slugs it_newKinds it_newColumns it_newSlugs it_rhythmTold it_textSize it_at it_first it_length it_faultOf it_fault it_buyerMany it_tryMany ft_w 0 x1 (ft_slug (Int32.toNatClampNeg x4)) N r13 hc14) (cwV 3 hts gX8_passers_X8_passes rfl rfl rfl hdX8_passes ⟨Nat.le_of_ble_eq_true rfl, Nat.le_of_ble_eq_true rfl⟩) hK hN hX hP (dF hD rfl) hS hA [0, 2] (mcC rfl (mcC rfl mcN)) (by decide +kernel) [(qt, .inr (8, [.ref qt_w, .ref qt_isKept, .ref qt_value, .ref qt_weight, .ref qt_newTube, .ref qt_newPrice, .ref qt_newLow, .ref qt_newHigh, .ref qt_newGoods, .ref qt_rhythm, .ref qt_rhythmLong, .ref qt_slug, .int it_kinds, .int it_columns, .int it_slugs, .int it_newKinds, .int it_newColumns, .int it_newSlugs, .int it_rhythmTold, .ref qt_text, .int it_textSize, .int it_at, .int it_first, .int it_length, .int it_faultOf, .int it_fault, .ref qt_of, .ref qt_buyerColumn, .ref qt_buyerKind, .ref qt_buyerCoins, .int it_buyerMany, .ref qt_tryRow, .ref qt_tryLong, .ref qt_tryFree, .int it_tryMany])), (qt_weight, .inl (cI, 10, .inl ft_weight)), (qt_w, .inl (cI, 240, .inl ft_w)), (qt_slug, .inl (cI, 10, .inl ft_slug))] [1, 3] (mcC rfl (mcC rfl mcN)) ((mcC rfl (mcC rfl mcN)).trans (mcC rfl (mcC rfl mcN)).symm) 4 rfl (by decide +kernel) (va_recv hK hP (ci := 8) (q0 := 0) rfl rfl) rfl hl.1 rfl (Nat.le_of_ble_eq_true rfl) ⟨Nat.zero_le _, Nat.zero_le _⟩ dX8_passers_50 (fun H locs hP hS => ?_)
            replace h := bd_el h
            obtain ⟨r15, hc16, h⟩ := h
            refine callSI (rest := [.int x3]) ⟨hx, hb, hml, hown, hts⟩ (ctX8_one l D cI cZ cB cS kK kV _ r13 N r15 hc16) (va_cwS 1 hts gX8_passers_X8_one rfl rfl rfl hdX8_one ⟨Nat.le_of_ble_eq_true rfl, Nat.le_of_ble_eq_true rfl⟩) hK hN hX hP (dF hD rfl) hS hA [] mcN (by decide +kernel) [(qt, .inr (8, [.ref qt_w, .ref qt_isKept, .ref qt_value, .ref qt_weight, .ref qt_newTube, .ref qt_newPrice, .ref qt_newLow, .ref qt_newHigh, .ref qt_newGoods, .ref qt_rhythm, .ref qt_rhythmLong, .ref qt_slug, .int it_kinds, .int it_columns, .int it_slugs, .int it_newKinds, .int it_newColumns, .int it_newSlugs, .int it_rhythmTold, .ref qt_text, .int it_textSize, .int it_at, .int it_first, .int it_length, .int it_faultOf, .int it_fault, .ref qt_of, .ref qt_buyerColumn, .ref qt_buyerKind, .ref qt_buyerCoins, .int it_buyerMany, .ref qt_tryRow, .ref qt_tryLong, .ref qt_tryFree, .int it_tryMany])), (qt_weight, .inl (cI, 10, .inl ft_weight)), (qt_w, .inl (cI, 240, .inl ft_w)), (qt_slug, .inl (cI, 10, .inl ft_slug))] [0, 1, 2, 3] mcN ((mcC rfl (mcC rfl (mcC rfl (mcC rfl mcN)))).trans (mcC rfl (mcC rfl (mcC rfl (mcC rfl mcN)))).symm) 4 rfl (by decide +kernel) rfl hl.1 rfl (Nat.le_of_ble_eq_true rfl) ⟨Nat.zero_le _, Nat.zero_le _⟩ dX8_passers_53 (fun H locs hP hS => ?_)
            refine lv_iload hx hb dX8_passers_56 (lv_at hl 4 rfl) ?_
            refine lv_ishl hx hb dX8_passers_58 ?_
            refine lv_ior hx hb dX8_passers_59 ?_
            refine lv_topi (fun n17 en17 => ?_)
            replace h := lt_at en17 h
            refine lv_istore_n (lv' := [(3, .int n17), (0, .ref qt), (1, .int x1), (2, .int x2), (4, .int x4)]) hx hb dX8_passers_60 rfl hl (by decide) rfl (fun ls hl => ?_)
            obtain ⟨n18, en18⟩ : ∃ z : Int32, z = x4 + 1 := ⟨_, rfl⟩
            replace h := lt_at en18 h
            refine lv_iinc (v := n18) (lv' := [(4, .int n18), (3, .int n17), (0, .ref qt), (1, .int x1), (2, .int x2)]) hx hb dX8_passers_61 hl (k := 4) rfl (by rw [en18]; rfl) (by decide) rfl (fun ls hl => ?_)
            refine lv_goto (tgt := 5) hx hb dX8_passers_64 (by decide) ?_
            exact ih x1 x2 n17 n18 _ _ _ o h hP hS (lv_sub hl [2, 3, 4, 1, 0] rfl) K
      · replace h := if_f c1 h
        refine lv_aload_n hx hb dX8_passers_11 rfl (lv_at hl 0 rfl) ?_
        refine va_get (ci := 8) (v := .int it_slugs) (C := RX8) (T := TX8) (N := 35) hx hb hts hiX8 hown hK hP 0 rfl rfl 14 (by decide) fl170 (fun _ h9 => h9) rfl dX8_passers_12 ?_
        refine lv_goto (tgt := 22) hx hb dX8_passers_15 (by decide) ?_
        refine lv_icmp_ge (tgt := 67) hx hb dX8_passers_22 (by decide) (fun c19 => ?_) (fun c19 => ?_)
        · replace h := if_t c19 h
          exact K x3 (Option.some.inj h) _ _ _ hP hS (lv_sub hl [3] rfl)
        · replace h := if_f c19 h
          refine lv_iload_n hx hb dX8_passers_25 rfl (lv_at hl 3 rfl) ?_
          refine lv_aload_n hx hb dX8_passers_26 rfl (lv_at hl 0 rfl) ?_
          refine lv_iconst (v := 0) hx hb dX8_passers_27 (by decide) ?_
          refine lv_iload_n hx hb dX8_passers_28 rfl (lv_at hl 1 rfl) ?_
          refine lv_iload_n hx hb dX8_passers_29 rfl (lv_at hl 2 rfl) ?_
          refine lv_if_eq (tgt := 43) hx hb dX8_passers_30 (by decide) (fun c20 => ?_) (fun c20 => ?_)
          · replace h := if_t c20 h
            refine lv_aload_n hx hb dX8_passers_43 rfl (lv_at hl 0 rfl) ?_
            refine lv_iconst (v := 0) hx hb dX8_passers_44 (by decide) ?_
            refine lv_iload hx hb dX8_passers_45 (lv_at hl 4 rfl) ?_
            replace h := bd_el h
            obtain ⟨r21, hc22, h⟩ := h
            refine callVI (rest := [.int x1, .int 0, .ref qt, .int x3]) ⟨hx, hb, hml, hown, hts⟩ (ctX8_weightIn l D cI cZ cB cS kK kV _ qt qt_w qt_isKept qt_value qt_weight qt_newTube qt_newPrice qt_newLow qt_newHigh qt_newGoods qt_rhythm qt_rhythmLong qt_slug qt_text qt_of qt_buyerColumn qt_buyerKind qt_buyerCoins qt_tryRow qt_tryLong qt_tryFree it_kinds it_columns it_slugs it_newKinds it_newColumns it_newSlugs it_rhythmTold it_textSize it_at it_first it_length it_faultOf it_fault it_buyerMany it_tryMany ft_weight ft_w 0 x4 N r21 hc22) (cwV 2 hts gX8_passers_X8_weightIn rfl rfl rfl hdX8_weightIn ⟨Nat.le_of_ble_eq_true rfl, Nat.le_of_ble_eq_true rfl⟩) hK hN hX hP (dF hD rfl) hS hA [0, 1, 2] (mcC rfl (mcC rfl (mcC rfl mcN))) (by decide +kernel) [(qt, .inr (8, [.ref qt_w, .ref qt_isKept, .ref qt_value, .ref qt_weight, .ref qt_newTube, .ref qt_newPrice, .ref qt_newLow, .ref qt_newHigh, .ref qt_newGoods, .ref qt_rhythm, .ref qt_rhythmLong, .ref qt_slug, .int it_kinds, .int it_columns, .int it_slugs, .int it_newKinds, .int it_newColumns, .int it_newSlugs, .int it_rhythmTold, .ref qt_text, .int it_textSize, .int it_at, .int it_first, .int it_length, .int it_faultOf, .int it_fault, .ref qt_of, .ref qt_buyerColumn, .ref qt_buyerKind, .ref qt_buyerCoins, .int it_buyerMany, .ref qt_tryRow, .ref qt_tryLong, .ref qt_tryFree, .int it_tryMany])), (qt_weight, .inl (cI, 10, .inl ft_weight)), (qt_w, .inl (cI, 240, .inl ft_w)), (qt_slug, .inl (cI, 10, .inl ft_slug))] [3] (mcC rfl (mcC rfl (mcC rfl mcN))) ((mcC rfl mcN).trans (mcC rfl mcN).symm) 4 rfl (by decide +kernel) (va_recv hK hP (ci := 8) (q0 := 0) rfl rfl) rfl hl.1 rfl (Nat.le_of_ble_eq_true rfl) ⟨Nat.zero_le _, Nat.zero_le _⟩ dX8_passers_47 (fun H locs hP hS => ?_)
            replace h := bd_el h
            obtain ⟨r23, hc24, h⟩ := h
            refine callVI (rest := [.int x3]) ⟨hx, hb, hml, hown, hts⟩ (ctX8_passes l D cI cZ cB cS kK kV _ qt qt_w qt_isKept qt_value qt_weight qt_newTube qt_newPrice qt_newLow qt_newHigh qt_newGoods qt_rhythm qt_rhythmLong qt_slug qt_text qt_of qt_buyerColumn qt_buyerKind qt_buyerCoins qt_tryRow qt_tryLong qt_tryFree it_kinds it_columns it_slugs it_newKinds it_newColumns it_newSlugs it_rhythmTold it_textSize it_at it_first it_length it_faultOf it_fault it_buyerMany it_tryMany ft_w 0 x1 r21 N r23 hc24) (cwV 3 hts gX8_passers_X8_passes rfl rfl rfl hdX8_passes ⟨Nat.le_of_ble_eq_true rfl, Nat.le_of_ble_eq_true rfl⟩) hK hN hX hP (dF hD rfl) hS hA [0, 2] (mcC rfl (mcC rfl mcN)) (by decide +kernel) [(qt, .inr (8, [.ref qt_w, .ref qt_isKept, .ref qt_value, .ref qt_weight, .ref qt_newTube, .ref qt_newPrice, .ref qt_newLow, .ref qt_newHigh, .ref qt_newGoods, .ref qt_rhythm, .ref qt_rhythmLong, .ref qt_slug, .int it_kinds, .int it_columns, .int it_slugs, .int it_newKinds, .int it_newColumns, .int it_newSlugs, .int it_rhythmTold, .ref qt_text, .int it_textSize, .int it_at, .int it_first, .int it_length, .int it_faultOf, .int it_fault, .ref qt_of, .ref qt_buyerColumn, .ref qt_buyerKind, .ref qt_buyerCoins, .int it_buyerMany, .ref qt_tryRow, .ref qt_tryLong, .ref qt_tryFree, .int it_tryMany])), (qt_weight, .inl (cI, 10, .inl ft_weight)), (qt_w, .inl (cI, 240, .inl ft_w)), (qt_slug, .inl (cI, 10, .inl ft_slug))] [1, 3] (mcC rfl (mcC rfl mcN)) ((mcC rfl (mcC rfl mcN)).trans (mcC rfl (mcC rfl mcN)).symm) 4 rfl (by decide +kernel) (va_recv hK hP (ci := 8) (q0 := 0) rfl rfl) rfl hl.1 rfl (Nat.le_of_ble_eq_true rfl) ⟨Nat.zero_le _, Nat.zero_le _⟩ dX8_passers_50 (fun H locs hP hS => ?_)
            replace h := bd_el h
            obtain ⟨r25, hc26, h⟩ := h
            refine callSI (rest := [.int x3]) ⟨hx, hb, hml, hown, hts⟩ (ctX8_one l D cI cZ cB cS kK kV _ r23 N r25 hc26) (va_cwS 1 hts gX8_passers_X8_one rfl rfl rfl hdX8_one ⟨Nat.le_of_ble_eq_true rfl, Nat.le_of_ble_eq_true rfl⟩) hK hN hX hP (dF hD rfl) hS hA [] mcN (by decide +kernel) [(qt, .inr (8, [.ref qt_w, .ref qt_isKept, .ref qt_value, .ref qt_weight, .ref qt_newTube, .ref qt_newPrice, .ref qt_newLow, .ref qt_newHigh, .ref qt_newGoods, .ref qt_rhythm, .ref qt_rhythmLong, .ref qt_slug, .int it_kinds, .int it_columns, .int it_slugs, .int it_newKinds, .int it_newColumns, .int it_newSlugs, .int it_rhythmTold, .ref qt_text, .int it_textSize, .int it_at, .int it_first, .int it_length, .int it_faultOf, .int it_fault, .ref qt_of, .ref qt_buyerColumn, .ref qt_buyerKind, .ref qt_buyerCoins, .int it_buyerMany, .ref qt_tryRow, .ref qt_tryLong, .ref qt_tryFree, .int it_tryMany])), (qt_weight, .inl (cI, 10, .inl ft_weight)), (qt_w, .inl (cI, 240, .inl ft_w)), (qt_slug, .inl (cI, 10, .inl ft_slug))] [0, 1, 2, 3] mcN ((mcC rfl (mcC rfl (mcC rfl (mcC rfl mcN)))).trans (mcC rfl (mcC rfl (mcC rfl (mcC rfl mcN)))).symm) 4 rfl (by decide +kernel) rfl hl.1 rfl (Nat.le_of_ble_eq_true rfl) ⟨Nat.zero_le _, Nat.zero_le _⟩ dX8_passers_53 (fun H locs hP hS => ?_)
            refine lv_iload hx hb dX8_passers_56 (lv_at hl 4 rfl) ?_
            refine lv_ishl hx hb dX8_passers_58 ?_
            refine lv_ior hx hb dX8_passers_59 ?_
            refine lv_topi (fun n27 en27 => ?_)
            replace h := lt_at en27 h
            refine lv_istore_n (lv' := [(3, .int n27), (0, .ref qt), (1, .int x1), (2, .int x2), (4, .int x4)]) hx hb dX8_passers_60 rfl hl (by decide) rfl (fun ls hl => ?_)
            obtain ⟨n28, en28⟩ : ∃ z : Int32, z = x4 + 1 := ⟨_, rfl⟩
            replace h := lt_at en28 h
            refine lv_iinc (v := n28) (lv' := [(4, .int n28), (3, .int n27), (0, .ref qt), (1, .int x1), (2, .int x2)]) hx hb dX8_passers_61 hl (k := 4) rfl (by rw [en28]; rfl) (by decide) rfl (fun ls hl => ?_)
            refine lv_goto (tgt := 5) hx hb dX8_passers_64 (by decide) ?_
            exact ih x1 x2 n27 n28 _ _ _ o h hP hS (lv_sub hl [2, 3, 4, 1, 0] rfl) K
          · replace h := if_f c20 h
            refine lv_aload_n hx hb dX8_passers_33 rfl (lv_at hl 0 rfl) ?_
            refine va_get (ci := 8) (v := .ref qt_slug) (C := RX8) (T := TX8) (N := 35) hx hb hts hiX8 hown hK hP 0 rfl rfl 11 (by decide) fl44 (fun _ h9 => h9) rfl dX8_passers_34 ?_
            refine lv_iload hx hb dX8_passers_37 (lv_at hl 4 rfl) ?_
            replace h := ck_el h
            obtain ⟨hi29, h⟩ := h
            refine va_iald hx hb hK hP 3 0 rfl rfl hi29 dX8_passers_39 ?_
            refine lv_goto (tgt := 50) hx hb dX8_passers_40 (by decide) ?_
            replace h := bd_el h
            obtain ⟨r30, hc31, h⟩ := h
            refine callVI (rest := [.int x3]) ⟨hx, hb, hml, hown, hts⟩ (ctX8_passes l D cI cZ cB cS kK kV _ qt qt_w qt_isKept qt_value qt_weight qt_newTube qt_newPrice qt_newLow qt_newHigh qt_newGoods qt_rhythm qt_rhythmLong qt_slug qt_text qt_of qt_buyerColumn qt_buyerKind qt_buyerCoins qt_tryRow qt_tryLong qt_tryFree it_kinds it_columns it_slugs it_newKinds it_newColumns it_newSlugs it_rhythmTold it_textSize it_at it_first it_length it_faultOf it_fault it_buyerMany it_tryMany ft_w 0 x1 (ft_slug (Int32.toNatClampNeg x4)) N r30 hc31) (cwV 3 hts gX8_passers_X8_passes rfl rfl rfl hdX8_passes ⟨Nat.le_of_ble_eq_true rfl, Nat.le_of_ble_eq_true rfl⟩) hK hN hX hP (dF hD rfl) hS hA [0, 2] (mcC rfl (mcC rfl mcN)) (by decide +kernel) [(qt, .inr (8, [.ref qt_w, .ref qt_isKept, .ref qt_value, .ref qt_weight, .ref qt_newTube, .ref qt_newPrice, .ref qt_newLow, .ref qt_newHigh, .ref qt_newGoods, .ref qt_rhythm, .ref qt_rhythmLong, .ref qt_slug, .int it_kinds, .int it_columns, .int it_slugs, .int it_newKinds, .int it_newColumns, .int it_newSlugs, .int it_rhythmTold, .ref qt_text, .int it_textSize, .int it_at, .int it_first, .int it_length, .int it_faultOf, .int it_fault, .ref qt_of, .ref qt_buyerColumn, .ref qt_buyerKind, .ref qt_buyerCoins, .int it_buyerMany, .ref qt_tryRow, .ref qt_tryLong, .ref qt_tryFree, .int it_tryMany])), (qt_weight, .inl (cI, 10, .inl ft_weight)), (qt_w, .inl (cI, 240, .inl ft_w)), (qt_slug, .inl (cI, 10, .inl ft_slug))] [1, 3] (mcC rfl (mcC rfl mcN)) ((mcC rfl (mcC rfl mcN)).trans (mcC rfl (mcC rfl mcN)).symm) 4 rfl (by decide +kernel) (va_recv hK hP (ci := 8) (q0 := 0) rfl rfl) rfl hl.1 rfl (Nat.le_of_ble_eq_true rfl) ⟨Nat.zero_le _, Nat.zero_le _⟩ dX8_passers_50 (fun H locs hP hS => ?_)
            replace h := bd_el h
            obtain ⟨r32, hc33, h⟩ := h
            refine callSI (rest := [.int x3]) ⟨hx, hb, hml, hown, hts⟩ (ctX8_one l D cI cZ cB cS kK kV _ r30 N r32 hc33) (va_cwS 1 hts gX8_passers_X8_one rfl rfl rfl hdX8_one ⟨Nat.le_of_ble_eq_true rfl, Nat.le_of_ble_eq_true rfl⟩) hK hN hX hP (dF hD rfl) hS hA [] mcN (by decide +kernel) [(qt, .inr (8, [.ref qt_w, .ref qt_isKept, .ref qt_value, .ref qt_weight, .ref qt_newTube, .ref qt_newPrice, .ref qt_newLow, .ref qt_newHigh, .ref qt_newGoods, .ref qt_rhythm, .ref qt_rhythmLong, .ref qt_slug, .int it_kinds, .int it_columns, .int it_slugs, .int it_newKinds, .int it_newColumns, .int it_newSlugs, .int it_rhythmTold, .ref qt_text, .int it_textSize, .int it_at, .int it_first, .int it_length, .int it_faultOf, .int it_fault, .ref qt_of, .ref qt_buyerColumn, .ref qt_buyerKind, .ref qt_buyerCoins, .int it_buyerMany, .ref qt_tryRow, .ref qt_tryLong, .ref qt_tryFree, .int it_tryMany])), (qt_weight, .inl (cI, 10, .inl ft_weight)), (qt_w, .inl (cI, 240, .inl ft_w)), (qt_slug, .inl (cI, 10, .inl ft_slug))] [0, 1, 2, 3] mcN ((mcC rfl (mcC rfl (mcC rfl (mcC rfl mcN)))).trans (mcC rfl (mcC rfl (mcC rfl (mcC rfl mcN)))).symm) 4 rfl (by decide +kernel) rfl hl.1 rfl (Nat.le_of_ble_eq_true rfl) ⟨Nat.zero_le _, Nat.zero_le _⟩ dX8_passers_53 (fun H locs hP hS => ?_)
            refine lv_iload hx hb dX8_passers_56 (lv_at hl 4 rfl) ?_
            refine lv_ishl hx hb dX8_passers_58 ?_
            refine lv_ior hx hb dX8_passers_59 ?_
            refine lv_topi (fun n34 en34 => ?_)
            replace h := lt_at en34 h
            refine lv_istore_n (lv' := [(3, .int n34), (0, .ref qt), (1, .int x1), (2, .int x2), (4, .int x4)]) hx hb dX8_passers_60 rfl hl (by decide) rfl (fun ls hl => ?_)
            obtain ⟨n35, en35⟩ : ∃ z : Int32, z = x4 + 1 := ⟨_, rfl⟩
            replace h := lt_at en35 h
            refine lv_iinc (v := n35) (lv' := [(4, .int n35), (3, .int n34), (0, .ref qt), (1, .int x1), (2, .int x2)]) hx hb dX8_passers_61 hl (k := 4) rfl (by rw [en35]; rfl) (by decide) rfl (fun ls hl => ?_)
            refine lv_goto (tgt := 5) hx hb dX8_passers_64 (by decide) ?_
            exact ih x1 x2 n34 n35 _ _ _ o h hP hS (lv_sub hl [2, 3, 4, 1, 0] rfl) K
  unfold fX8_passers at h
  refine lv_iconst (v := 0) hx hb dX8_passers_0 (by decide) ?_
  refine lv_istore_n (lv' := [(3, .int 0), (0, .ref qt), (1, .int x1), (2, .int x2)]) hx hb dX8_passers_1 rfl hl (by decide) rfl (fun ls hl => ?_)
  refine lv_iconst (v := 0) hx hb dX8_passers_2 (by decide) ?_
  refine lv_istore (lv' := [(4, .int 0), (3, .int 0), (0, .ref qt), (1, .int x1), (2, .int x2)]) hx hb dX8_passers_3 hl (by decide) rfl (fun ls hl => ?_)
  replace h := bd_el h
  obtain ⟨o36, ho36, h⟩ := h
  refine lp5 N x1 x2 0 0 _ _ _ o36 ho36 hP hS (lv_sub hl [2, 3, 4, 1, 0] rfl) (fun n37 eo H locs ls hP hS hl => ?_)
  subst eo
  refine lv_iload_n hx hb dX8_passers_67 rfl (lv_at hl 0 rfl) ?_
  simp only [Option.some.injEq] at h
  subst h
  exact hret _ _ _ _ hP hS rfl dX8_passers_68
theorem hdX8_passers : yX8_passers.cls = RX8 ∧ yX8_passers.cls ≠ "java/lang/invoke/MethodHandle" ∧ yX8_passers.cls ≠ "java/lang/invoke/VarHandle" ∧ (parseMethodDescriptor yX8_passers.desc).map (fun d => d.parameters.length) = some 2 := by decide +kernel

noncomputable def fX8_column (N : Nat) (it_kinds : Int32) (it_columns : Int32) (it_slugs : Int32) (ft_w : Nat → Int32) (ft_weight : Nat → Int32) (ft_slug : Nat → Int32) (x1 : Int32) (x2 : Int32) : Option (Int32) := bd (fX8_isColumn N it_columns x1) fun r1 => (if r1 = 0 then some (-1000000001) else (if x2 = 0 then ck (25 + x1) 240 (lt (ft_w (Int32.toNatClampNeg (25 + x1))) fun n6 => some n6) else if x2 = 1 then ck (30 + x1) 240 (lt (ft_w (Int32.toNatClampNeg (30 + x1))) fun n9 => some n9) else if x2 = 2 then ck (35 + x1) 240 (lt (ft_w (Int32.toNatClampNeg (35 + x1))) fun n12 => some n12) else if x2 = 3 then ck (5 + x1) 240 (lt (ft_w (Int32.toNatClampNeg (5 + x1))) fun n15 => some n15) else if x2 = 4 then ck (10 + x1) 240 (lt (ft_w (Int32.toNatClampNeg (10 + x1))) fun n18 => some n18) else if x2 = 5 then ck (10 + x1) 240 ((if (ft_w (Int32.toNatClampNeg (10 + x1))) < 10 then bd (fX8_one N 0) fun r22 => some r22 else bd (fX8_one N 1) fun r24 => some r24)) else if x2 = 6 then ck (40 + x1) 240 (lt (ft_w (Int32.toNatClampNeg (40 + x1))) fun n28 => some n28) else if x2 = 7 then bd (fX8_passers N it_kinds it_slugs ft_weight ft_w ft_slug x1 0) fun r30 => some r30 else if x2 = 8 then bd (fX8_passers N it_kinds it_slugs ft_weight ft_w ft_slug x1 1) fun r33 => some r33 else some (-1000000002)))
set_option maxHeartbeats 4000000 in
set_option maxRecDepth 100000 in
theorem ctX8_column (l : Launch) (D : va_G) (cI cZ cB cS : ClassId) (kK kV : Nat → Nat) (sz : Nat) (qt qt_w qt_isKept qt_value qt_weight qt_newTube qt_newPrice qt_newLow qt_newHigh qt_newGoods qt_rhythm qt_rhythmLong qt_slug qt_text qt_of qt_buyerColumn qt_buyerKind qt_buyerCoins qt_tryRow qt_tryLong qt_tryFree : Nat) (it_kinds : Int32) (it_columns : Int32) (it_slugs : Int32) (it_newKinds : Int32) (it_newColumns : Int32) (it_newSlugs : Int32) (it_rhythmTold : Int32) (it_textSize : Int32) (it_at : Int32) (it_first : Int32) (it_length : Int32) (it_faultOf : Int32) (it_fault : Int32) (it_buyerMany : Int32) (it_tryMany : Int32) (ft_w : Nat → Int32) (ft_weight : Nat → Int32) (ft_slug : Nat → Int32) (x1 : Int32) (x2 : Int32) (N : Nat) (r0 : Int32)  (h : fX8_column N it_kinds it_columns it_slugs ft_w ft_weight ft_slug x1 x2 = some r0) : CtI l yX8_column wsX8_column { frames := 3, cells := 0, slots := 0, locals := 72 } D (TY cI cZ cB cS) kK kV [.ref qt, .int x1, .int x2] [(qt, .inr (8, [.ref qt_w, .ref qt_isKept, .ref qt_value, .ref qt_weight, .ref qt_newTube, .ref qt_newPrice, .ref qt_newLow, .ref qt_newHigh, .ref qt_newGoods, .ref qt_rhythm, .ref qt_rhythmLong, .ref qt_slug, .int it_kinds, .int it_columns, .int it_slugs, .int it_newKinds, .int it_newColumns, .int it_newSlugs, .int it_rhythmTold, .ref qt_text, .int it_textSize, .int it_at, .int it_first, .int it_length, .int it_faultOf, .int it_fault, .ref qt_of, .ref qt_buyerColumn, .ref qt_buyerKind, .ref qt_buyerCoins, .int it_buyerMany, .ref qt_tryRow, .ref qt_tryLong, .ref qt_tryFree, .int it_tryMany])), (qt_w, .inl (cI, 240, .inl ft_w)), (qt_weight, .inl (cI, 10, .inl ft_weight)), (qt_slug, .inl (cI, 10, .inl ft_slug))] [(qt, .inr (8, [.ref qt_w, .ref qt_isKept, .ref qt_value, .ref qt_weight, .ref qt_newTube, .ref qt_newPrice, .ref qt_newLow, .ref qt_newHigh, .ref qt_newGoods, .ref qt_rhythm, .ref qt_rhythmLong, .ref qt_slug, .int it_kinds, .int it_columns, .int it_slugs, .int it_newKinds, .int it_newColumns, .int it_newSlugs, .int it_rhythmTold, .ref qt_text, .int it_textSize, .int it_at, .int it_first, .int it_length, .int it_faultOf, .int it_fault, .ref qt_of, .ref qt_buyerColumn, .ref qt_buyerKind, .ref qt_buyerCoins, .int it_buyerMany, .ref qt_tryRow, .ref qt_tryLong, .ref qt_tryFree, .int it_tryMany])), (qt_w, .inl (cI, 240, .inl ft_w)), (qt_weight, .inl (cI, 10, .inl ft_weight)), (qt_slug, .inl (cI, 10, .inl ft_slug))] sz r0 := by
  refine mkI (cc := cX8_column) (maxL := 3) (rt := .int) (own := RX8) (by decide) rfl rfl (Nat.le_of_ble_eq_true rfl) ?_
  intro p e s m args below meth c A Z ls hx hb hml hown hts hK hN hX hP hD hA hS hret hl
  have hl : lv_has ls 3 [(0, .ref qt), (1, .int x1), (2, .int x2)] := hl
  have fl7 : (Cond.fieldLink RX8 7 "SoupWallModel" "w" "[I").before args s = true := hts _ (List.mem_of_getElem? (l := wsX8_column) (i := 2) rfl)
  have hiX8 : ∀ w ∈ wsX80, w ∈ wsX8_column := fun w h => List.mem_cons_of_mem _ (List.mem_append_right _ h)
  have cn81 : (Cond.constant RX8 81 (-1000000002)).before args s = true := hts _ (List.mem_of_getElem? (l := wsX8_column) (i := 3) rfl)
  have cn193 : (Cond.constant RX8 193 (-1000000001)).before args s = true := hts _ (List.mem_of_getElem? (l := wsX8_column) (i := 1) rfl)
  unfold fX8_column at h
  refine lv_aload_n hx hb dX8_column_0 rfl (lv_at hl 0 rfl) ?_
  refine lv_iload_n hx hb dX8_column_1 rfl (lv_at hl 1 rfl) ?_
  replace h := bd_el h
  obtain ⟨r1, hc2, h⟩ := h
  refine callVI (rest := []) ⟨hx, hb, hml, hown, hts⟩ (ctX8_isColumn l D cI cZ cB cS kK kV _ qt qt_w qt_isKept qt_value qt_weight qt_newTube qt_newPrice qt_newLow qt_newHigh qt_newGoods qt_rhythm qt_rhythmLong qt_slug qt_text qt_of qt_buyerColumn qt_buyerKind qt_buyerCoins qt_tryRow qt_tryLong qt_tryFree it_kinds it_columns it_slugs it_newKinds it_newColumns it_newSlugs it_rhythmTold it_textSize it_at it_first it_length it_faultOf it_fault it_buyerMany it_tryMany x1 N r1 hc2) (cwV 1 hts gX8_column_X8_isColumn rfl rfl rfl hdX8_isColumn ⟨Nat.le_of_ble_eq_true rfl, Nat.le_of_ble_eq_true rfl⟩) hK hN hX hP (dF hD rfl) hS hA [0] (mcC rfl mcN) (by decide +kernel) [(qt, .inr (8, [.ref qt_w, .ref qt_isKept, .ref qt_value, .ref qt_weight, .ref qt_newTube, .ref qt_newPrice, .ref qt_newLow, .ref qt_newHigh, .ref qt_newGoods, .ref qt_rhythm, .ref qt_rhythmLong, .ref qt_slug, .int it_kinds, .int it_columns, .int it_slugs, .int it_newKinds, .int it_newColumns, .int it_newSlugs, .int it_rhythmTold, .ref qt_text, .int it_textSize, .int it_at, .int it_first, .int it_length, .int it_faultOf, .int it_fault, .ref qt_of, .ref qt_buyerColumn, .ref qt_buyerKind, .ref qt_buyerCoins, .int it_buyerMany, .ref qt_tryRow, .ref qt_tryLong, .ref qt_tryFree, .int it_tryMany])), (qt_w, .inl (cI, 240, .inl ft_w)), (qt_weight, .inl (cI, 10, .inl ft_weight)), (qt_slug, .inl (cI, 10, .inl ft_slug))] [1, 2, 3] (mcC rfl mcN) ((mcC rfl (mcC rfl (mcC rfl mcN))).trans (mcC rfl (mcC rfl (mcC rfl mcN))).symm) 4 rfl (by decide +kernel) (va_recv hK hP (ci := 8) (q0 := 0) rfl rfl) rfl hl.1 rfl (Nat.le_of_ble_eq_true rfl) ⟨Nat.zero_le _, Nat.zero_le _⟩ dX8_column_2 (fun H locs hP hS => ?_)
  refine lv_if_ne (tgt := 11) hx hb dX8_column_5 (by decide) (fun c3 => ?_) (fun c3 => ?_)
  · replace h := if_f c3 h
    refine lv_iload_n hx hb dX8_column_11 rfl (lv_at hl 2 rfl) ?_
    by_cases c4 : x2 = 0
    · replace h := if_t c4 h
      refine lv_tableIn (off := 52) (tgt := 64) hx hb dX8_column_12 (by rw [c4]; decide) (by rw [c4]; decide) (by rw [c4]; rfl) (by decide) ?_
      refine lv_aload_n hx hb dX8_column_64 rfl (lv_at hl 0 rfl) ?_
      refine va_get (ci := 8) (v := .ref qt_w) (C := RX8) (T := TX8) (N := 35) hx hb hts hiX8 hown hK hP 0 rfl rfl 0 (by decide) fl7 (fun _ h9 => h9) rfl dX8_column_65 ?_
      refine lv_bipush (v := 25) hx hb dX8_column_68 (by decide) ?_
      refine lv_iload_n hx hb dX8_column_70 rfl (lv_at hl 1 rfl) ?_
      refine lv_iadd hx hb dX8_column_71 ?_
      replace h := ck_el h
      obtain ⟨hi5, h⟩ := h
      refine va_iald hx hb hK hP 1 0 rfl rfl hi5 dX8_column_72 ?_
      refine lv_topi (fun n6 en6 => ?_)
      replace h := lt_at en6 h
      simp only [Option.some.injEq] at h
      subst h
      exact hret _ _ _ _ hP hS rfl dX8_column_73
    replace h := if_f c4 h
    by_cases c7 : x2 = 1
    · replace h := if_t c7 h
      refine lv_tableIn (off := 62) (tgt := 74) hx hb dX8_column_12 (by rw [c7]; decide) (by rw [c7]; decide) (by rw [c7]; rfl) (by decide) ?_
      refine lv_aload_n hx hb dX8_column_74 rfl (lv_at hl 0 rfl) ?_
      refine va_get (ci := 8) (v := .ref qt_w) (C := RX8) (T := TX8) (N := 35) hx hb hts hiX8 hown hK hP 0 rfl rfl 0 (by decide) fl7 (fun _ h9 => h9) rfl dX8_column_75 ?_
      refine lv_bipush (v := 30) hx hb dX8_column_78 (by decide) ?_
      refine lv_iload_n hx hb dX8_column_80 rfl (lv_at hl 1 rfl) ?_
      refine lv_iadd hx hb dX8_column_81 ?_
      replace h := ck_el h
      obtain ⟨hi8, h⟩ := h
      refine va_iald hx hb hK hP 1 0 rfl rfl hi8 dX8_column_82 ?_
      refine lv_topi (fun n9 en9 => ?_)
      replace h := lt_at en9 h
      simp only [Option.some.injEq] at h
      subst h
      exact hret _ _ _ _ hP hS rfl dX8_column_83
    replace h := if_f c7 h
    by_cases c10 : x2 = 2
    · replace h := if_t c10 h
      refine lv_tableIn (off := 72) (tgt := 84) hx hb dX8_column_12 (by rw [c10]; decide) (by rw [c10]; decide) (by rw [c10]; rfl) (by decide) ?_
      refine lv_aload_n hx hb dX8_column_84 rfl (lv_at hl 0 rfl) ?_
      refine va_get (ci := 8) (v := .ref qt_w) (C := RX8) (T := TX8) (N := 35) hx hb hts hiX8 hown hK hP 0 rfl rfl 0 (by decide) fl7 (fun _ h9 => h9) rfl dX8_column_85 ?_
      refine lv_bipush (v := 35) hx hb dX8_column_88 (by decide) ?_
      refine lv_iload_n hx hb dX8_column_90 rfl (lv_at hl 1 rfl) ?_
      refine lv_iadd hx hb dX8_column_91 ?_
      replace h := ck_el h
      obtain ⟨hi11, h⟩ := h
      refine va_iald hx hb hK hP 1 0 rfl rfl hi11 dX8_column_92 ?_
      refine lv_topi (fun n12 en12 => ?_)
      replace h := lt_at en12 h
      simp only [Option.some.injEq] at h
      subst h
      exact hret _ _ _ _ hP hS rfl dX8_column_93
    replace h := if_f c10 h
    by_cases c13 : x2 = 3
    · replace h := if_t c13 h
      refine lv_tableIn (off := 82) (tgt := 94) hx hb dX8_column_12 (by rw [c13]; decide) (by rw [c13]; decide) (by rw [c13]; rfl) (by decide) ?_
      refine lv_aload_n hx hb dX8_column_94 rfl (lv_at hl 0 rfl) ?_
      refine va_get (ci := 8) (v := .ref qt_w) (C := RX8) (T := TX8) (N := 35) hx hb hts hiX8 hown hK hP 0 rfl rfl 0 (by decide) fl7 (fun _ h9 => h9) rfl dX8_column_95 ?_
      refine lv_iconst (v := 5) hx hb dX8_column_98 (by decide) ?_
      refine lv_iload_n hx hb dX8_column_99 rfl (lv_at hl 1 rfl) ?_
      refine lv_iadd hx hb dX8_column_100 ?_
      replace h := ck_el h
      obtain ⟨hi14, h⟩ := h
      refine va_iald hx hb hK hP 1 0 rfl rfl hi14 dX8_column_101 ?_
      refine lv_topi (fun n15 en15 => ?_)
      replace h := lt_at en15 h
      simp only [Option.some.injEq] at h
      subst h
      exact hret _ _ _ _ hP hS rfl dX8_column_102
    replace h := if_f c13 h
    by_cases c16 : x2 = 4
    · replace h := if_t c16 h
      refine lv_tableIn (off := 91) (tgt := 103) hx hb dX8_column_12 (by rw [c16]; decide) (by rw [c16]; decide) (by rw [c16]; rfl) (by decide) ?_
      refine lv_aload_n hx hb dX8_column_103 rfl (lv_at hl 0 rfl) ?_
      refine va_get (ci := 8) (v := .ref qt_w) (C := RX8) (T := TX8) (N := 35) hx hb hts hiX8 hown hK hP 0 rfl rfl 0 (by decide) fl7 (fun _ h9 => h9) rfl dX8_column_104 ?_
      refine lv_bipush (v := 10) hx hb dX8_column_107 (by decide) ?_
      refine lv_iload_n hx hb dX8_column_109 rfl (lv_at hl 1 rfl) ?_
      refine lv_iadd hx hb dX8_column_110 ?_
      replace h := ck_el h
      obtain ⟨hi17, h⟩ := h
      refine va_iald hx hb hK hP 1 0 rfl rfl hi17 dX8_column_111 ?_
      refine lv_topi (fun n18 en18 => ?_)
      replace h := lt_at en18 h
      simp only [Option.some.injEq] at h
      subst h
      exact hret _ _ _ _ hP hS rfl dX8_column_112
    replace h := if_f c16 h
    by_cases c19 : x2 = 5
    · replace h := if_t c19 h
      refine lv_tableIn (off := 101) (tgt := 113) hx hb dX8_column_12 (by rw [c19]; decide) (by rw [c19]; decide) (by rw [c19]; rfl) (by decide) ?_
      refine lv_aload_n hx hb dX8_column_113 rfl (lv_at hl 0 rfl) ?_
      refine va_get (ci := 8) (v := .ref qt_w) (C := RX8) (T := TX8) (N := 35) hx hb hts hiX8 hown hK hP 0 rfl rfl 0 (by decide) fl7 (fun _ h9 => h9) rfl dX8_column_114 ?_
      refine lv_bipush (v := 10) hx hb dX8_column_117 (by decide) ?_
      refine lv_iload_n hx hb dX8_column_119 rfl (lv_at hl 1 rfl) ?_
      refine lv_iadd hx hb dX8_column_120 ?_
      replace h := ck_el h
      obtain ⟨hi20, h⟩ := h
      refine va_iald hx hb hK hP 1 0 rfl rfl hi20 dX8_column_121 ?_
      refine lv_bipush (v := 10) hx hb dX8_column_122 (by decide) ?_
      refine lv_icmp_lt (tgt := 131) hx hb dX8_column_124 (by decide) (fun c21 => ?_) (fun c21 => ?_)
      · replace h := if_t c21 h
        refine lv_iconst (v := 0) hx hb dX8_column_131 (by decide) ?_
        replace h := bd_el h
        obtain ⟨r22, hc23, h⟩ := h
        refine callSI (rest := []) ⟨hx, hb, hml, hown, hts⟩ (ctX8_one l D cI cZ cB cS kK kV _ 0 N r22 hc23) (va_cwS 1 hts gX8_column_X8_one rfl rfl rfl hdX8_one ⟨Nat.le_of_ble_eq_true rfl, Nat.le_of_ble_eq_true rfl⟩) hK hN hX hP (dF hD rfl) hS hA [] mcN (by decide +kernel) [(qt, .inr (8, [.ref qt_w, .ref qt_isKept, .ref qt_value, .ref qt_weight, .ref qt_newTube, .ref qt_newPrice, .ref qt_newLow, .ref qt_newHigh, .ref qt_newGoods, .ref qt_rhythm, .ref qt_rhythmLong, .ref qt_slug, .int it_kinds, .int it_columns, .int it_slugs, .int it_newKinds, .int it_newColumns, .int it_newSlugs, .int it_rhythmTold, .ref qt_text, .int it_textSize, .int it_at, .int it_first, .int it_length, .int it_faultOf, .int it_fault, .ref qt_of, .ref qt_buyerColumn, .ref qt_buyerKind, .ref qt_buyerCoins, .int it_buyerMany, .ref qt_tryRow, .ref qt_tryLong, .ref qt_tryFree, .int it_tryMany])), (qt_w, .inl (cI, 240, .inl ft_w)), (qt_weight, .inl (cI, 10, .inl ft_weight)), (qt_slug, .inl (cI, 10, .inl ft_slug))] [0, 1, 2, 3] mcN ((mcC rfl (mcC rfl (mcC rfl (mcC rfl mcN)))).trans (mcC rfl (mcC rfl (mcC rfl (mcC rfl mcN)))).symm) 4 rfl (by decide +kernel) rfl hl.1 rfl (Nat.le_of_ble_eq_true rfl) ⟨Nat.zero_le _, Nat.zero_le _⟩ dX8_column_132 (fun H locs hP hS => ?_)
        simp only [Option.some.injEq] at h
        subst h
        exact hret _ _ _ _ hP hS rfl dX8_column_135
      · replace h := if_f c21 h
        refine lv_iconst (v := 1) hx hb dX8_column_127 (by decide) ?_
        refine lv_goto (tgt := 132) hx hb dX8_column_128 (by decide) ?_
        replace h := bd_el h
        obtain ⟨r24, hc25, h⟩ := h
        refine callSI (rest := []) ⟨hx, hb, hml, hown, hts⟩ (ctX8_one l D cI cZ cB cS kK kV _ 1 N r24 hc25) (va_cwS 1 hts gX8_column_X8_one rfl rfl rfl hdX8_one ⟨Nat.le_of_ble_eq_true rfl, Nat.le_of_ble_eq_true rfl⟩) hK hN hX hP (dF hD rfl) hS hA [] mcN (by decide +kernel) [(qt, .inr (8, [.ref qt_w, .ref qt_isKept, .ref qt_value, .ref qt_weight, .ref qt_newTube, .ref qt_newPrice, .ref qt_newLow, .ref qt_newHigh, .ref qt_newGoods, .ref qt_rhythm, .ref qt_rhythmLong, .ref qt_slug, .int it_kinds, .int it_columns, .int it_slugs, .int it_newKinds, .int it_newColumns, .int it_newSlugs, .int it_rhythmTold, .ref qt_text, .int it_textSize, .int it_at, .int it_first, .int it_length, .int it_faultOf, .int it_fault, .ref qt_of, .ref qt_buyerColumn, .ref qt_buyerKind, .ref qt_buyerCoins, .int it_buyerMany, .ref qt_tryRow, .ref qt_tryLong, .ref qt_tryFree, .int it_tryMany])), (qt_w, .inl (cI, 240, .inl ft_w)), (qt_weight, .inl (cI, 10, .inl ft_weight)), (qt_slug, .inl (cI, 10, .inl ft_slug))] [0, 1, 2, 3] mcN ((mcC rfl (mcC rfl (mcC rfl (mcC rfl mcN)))).trans (mcC rfl (mcC rfl (mcC rfl (mcC rfl mcN)))).symm) 4 rfl (by decide +kernel) rfl hl.1 rfl (Nat.le_of_ble_eq_true rfl) ⟨Nat.zero_le _, Nat.zero_le _⟩ dX8_column_132 (fun H locs hP hS => ?_)
        simp only [Option.some.injEq] at h
        subst h
        exact hret _ _ _ _ hP hS rfl dX8_column_135
    replace h := if_f c19 h
    by_cases c26 : x2 = 6
    · replace h := if_t c26 h
      refine lv_tableIn (off := 124) (tgt := 136) hx hb dX8_column_12 (by rw [c26]; decide) (by rw [c26]; decide) (by rw [c26]; rfl) (by decide) ?_
      refine lv_aload_n hx hb dX8_column_136 rfl (lv_at hl 0 rfl) ?_
      refine va_get (ci := 8) (v := .ref qt_w) (C := RX8) (T := TX8) (N := 35) hx hb hts hiX8 hown hK hP 0 rfl rfl 0 (by decide) fl7 (fun _ h9 => h9) rfl dX8_column_137 ?_
      refine lv_bipush (v := 40) hx hb dX8_column_140 (by decide) ?_
      refine lv_iload_n hx hb dX8_column_142 rfl (lv_at hl 1 rfl) ?_
      refine lv_iadd hx hb dX8_column_143 ?_
      replace h := ck_el h
      obtain ⟨hi27, h⟩ := h
      refine va_iald hx hb hK hP 1 0 rfl rfl hi27 dX8_column_144 ?_
      refine lv_topi (fun n28 en28 => ?_)
      replace h := lt_at en28 h
      simp only [Option.some.injEq] at h
      subst h
      exact hret _ _ _ _ hP hS rfl dX8_column_145
    replace h := if_f c26 h
    by_cases c29 : x2 = 7
    · replace h := if_t c29 h
      refine lv_tableIn (off := 134) (tgt := 146) hx hb dX8_column_12 (by rw [c29]; decide) (by rw [c29]; decide) (by rw [c29]; rfl) (by decide) ?_
      refine lv_aload_n hx hb dX8_column_146 rfl (lv_at hl 0 rfl) ?_
      refine lv_iload_n hx hb dX8_column_147 rfl (lv_at hl 1 rfl) ?_
      refine lv_iconst (v := 0) hx hb dX8_column_148 (by decide) ?_
      replace h := bd_el h
      obtain ⟨r30, hc31, h⟩ := h
      refine callVI (rest := []) ⟨hx, hb, hml, hown, hts⟩ (ctX8_passers l D cI cZ cB cS kK kV _ qt qt_w qt_isKept qt_value qt_weight qt_newTube qt_newPrice qt_newLow qt_newHigh qt_newGoods qt_rhythm qt_rhythmLong qt_slug qt_text qt_of qt_buyerColumn qt_buyerKind qt_buyerCoins qt_tryRow qt_tryLong qt_tryFree it_kinds it_columns it_slugs it_newKinds it_newColumns it_newSlugs it_rhythmTold it_textSize it_at it_first it_length it_faultOf it_fault it_buyerMany it_tryMany ft_weight ft_w ft_slug x1 0 N r30 hc31) (cwV 2 hts gX8_column_X8_passers rfl rfl rfl hdX8_passers ⟨Nat.le_of_ble_eq_true rfl, Nat.le_of_ble_eq_true rfl⟩) hK hN hX hP (dF hD rfl) hS hA [0, 2, 1, 3] (mcC rfl (mcC rfl (mcC rfl (mcC rfl mcN)))) (by decide +kernel) [(qt, .inr (8, [.ref qt_w, .ref qt_isKept, .ref qt_value, .ref qt_weight, .ref qt_newTube, .ref qt_newPrice, .ref qt_newLow, .ref qt_newHigh, .ref qt_newGoods, .ref qt_rhythm, .ref qt_rhythmLong, .ref qt_slug, .int it_kinds, .int it_columns, .int it_slugs, .int it_newKinds, .int it_newColumns, .int it_newSlugs, .int it_rhythmTold, .ref qt_text, .int it_textSize, .int it_at, .int it_first, .int it_length, .int it_faultOf, .int it_fault, .ref qt_of, .ref qt_buyerColumn, .ref qt_buyerKind, .ref qt_buyerCoins, .int it_buyerMany, .ref qt_tryRow, .ref qt_tryLong, .ref qt_tryFree, .int it_tryMany])), (qt_w, .inl (cI, 240, .inl ft_w)), (qt_weight, .inl (cI, 10, .inl ft_weight)), (qt_slug, .inl (cI, 10, .inl ft_slug))] [] (mcC rfl (mcC rfl (mcC rfl (mcC rfl mcN)))) (mcN.trans mcN.symm) 4 rfl (by decide +kernel) (va_recv hK hP (ci := 8) (q0 := 0) rfl rfl) rfl hl.1 rfl (Nat.le_of_ble_eq_true rfl) ⟨Nat.zero_le _, Nat.zero_le _⟩ dX8_column_149 (fun H locs hP hS => ?_)
      simp only [Option.some.injEq] at h
      subst h
      exact hret _ _ _ _ hP hS rfl dX8_column_152
    replace h := if_f c29 h
    by_cases c32 : x2 = 8
    · replace h := if_t c32 h
      refine lv_tableIn (off := 141) (tgt := 153) hx hb dX8_column_12 (by rw [c32]; decide) (by rw [c32]; decide) (by rw [c32]; rfl) (by decide) ?_
      refine lv_aload_n hx hb dX8_column_153 rfl (lv_at hl 0 rfl) ?_
      refine lv_iload_n hx hb dX8_column_154 rfl (lv_at hl 1 rfl) ?_
      refine lv_iconst (v := 1) hx hb dX8_column_155 (by decide) ?_
      replace h := bd_el h
      obtain ⟨r33, hc34, h⟩ := h
      refine callVI (rest := []) ⟨hx, hb, hml, hown, hts⟩ (ctX8_passers l D cI cZ cB cS kK kV _ qt qt_w qt_isKept qt_value qt_weight qt_newTube qt_newPrice qt_newLow qt_newHigh qt_newGoods qt_rhythm qt_rhythmLong qt_slug qt_text qt_of qt_buyerColumn qt_buyerKind qt_buyerCoins qt_tryRow qt_tryLong qt_tryFree it_kinds it_columns it_slugs it_newKinds it_newColumns it_newSlugs it_rhythmTold it_textSize it_at it_first it_length it_faultOf it_fault it_buyerMany it_tryMany ft_weight ft_w ft_slug x1 1 N r33 hc34) (cwV 2 hts gX8_column_X8_passers rfl rfl rfl hdX8_passers ⟨Nat.le_of_ble_eq_true rfl, Nat.le_of_ble_eq_true rfl⟩) hK hN hX hP (dF hD rfl) hS hA [0, 2, 1, 3] (mcC rfl (mcC rfl (mcC rfl (mcC rfl mcN)))) (by decide +kernel) [(qt, .inr (8, [.ref qt_w, .ref qt_isKept, .ref qt_value, .ref qt_weight, .ref qt_newTube, .ref qt_newPrice, .ref qt_newLow, .ref qt_newHigh, .ref qt_newGoods, .ref qt_rhythm, .ref qt_rhythmLong, .ref qt_slug, .int it_kinds, .int it_columns, .int it_slugs, .int it_newKinds, .int it_newColumns, .int it_newSlugs, .int it_rhythmTold, .ref qt_text, .int it_textSize, .int it_at, .int it_first, .int it_length, .int it_faultOf, .int it_fault, .ref qt_of, .ref qt_buyerColumn, .ref qt_buyerKind, .ref qt_buyerCoins, .int it_buyerMany, .ref qt_tryRow, .ref qt_tryLong, .ref qt_tryFree, .int it_tryMany])), (qt_w, .inl (cI, 240, .inl ft_w)), (qt_weight, .inl (cI, 10, .inl ft_weight)), (qt_slug, .inl (cI, 10, .inl ft_slug))] [] (mcC rfl (mcC rfl (mcC rfl (mcC rfl mcN)))) (mcN.trans mcN.symm) 4 rfl (by decide +kernel) (va_recv hK hP (ci := 8) (q0 := 0) rfl rfl) rfl hl.1 rfl (Nat.le_of_ble_eq_true rfl) ⟨Nat.zero_le _, Nat.zero_le _⟩ dX8_column_156 (fun H locs hP hS => ?_)
      simp only [Option.some.injEq] at h
      subst h
      exact hret _ _ _ _ hP hS rfl dX8_column_159
    replace h := if_f c32 h
    have tc4 : (x2 : Int32).toInt ≠ 0 := sw_ne c4
    have tc7 : (x2 : Int32).toInt ≠ 1 := sw_ne c7
    have tc10 : (x2 : Int32).toInt ≠ 2 := sw_ne c10
    have tc13 : (x2 : Int32).toInt ≠ 3 := sw_ne c13
    have tc16 : (x2 : Int32).toInt ≠ 4 := sw_ne c16
    have tc19 : (x2 : Int32).toInt ≠ 5 := sw_ne c19
    have tc26 : (x2 : Int32).toInt ≠ 6 := sw_ne c26
    have tc29 : (x2 : Int32).toInt ≠ 7 := sw_ne c29
    have tc32 : (x2 : Int32).toInt ≠ 8 := sw_ne c32
    refine lv_tableOut (tgt := 160) hx hb dX8_column_12 (by omega) (by decide) ?_
    refine lv_ldc (v := (-1000000002)) hx hb hown cn81 dX8_column_160 ?_
    simp only [Option.some.injEq] at h
    subst h
    exact hret _ _ _ _ hP hS rfl dX8_column_162
  · replace h := if_t c3 h
    refine lv_ldc (v := (-1000000001)) hx hb hown cn193 dX8_column_8 ?_
    simp only [Option.some.injEq] at h
    subst h
    exact hret _ _ _ _ hP hS rfl dX8_column_10
theorem hdX8_column : yX8_column.cls = RX8 ∧ yX8_column.cls ≠ "java/lang/invoke/MethodHandle" ∧ yX8_column.cls ≠ "java/lang/invoke/VarHandle" ∧ (parseMethodDescriptor yX8_column.desc).map (fun d => d.parameters.length) = some 2 := by decide +kernel

noncomputable def fX8_held (N : Nat) (x0 : Int64) : Option (Int32) := (if (lg_cmp x0 999999999) ≤ 0 then lt (Int64.toInt32 x0) fun n2 => some n2 else some 999999999)
set_option maxHeartbeats 4000000 in
set_option maxRecDepth 100000 in
theorem ctX8_held (l : Launch) (D : va_G) (cI cZ cB cS : ClassId) (kK kV : Nat → Nat) (sz : Nat)  (x0 : Int64) (N : Nat) (r0 : Int32)  (h : fX8_held N x0 = some r0) : CtI l yX8_held wsX8_held { frames := 0, cells := 0, slots := 0, locals := 0 } D (TY cI cZ cB cS) kK kV [.long x0] [] [] sz r0 := by
  refine mkI (cc := cX8_held) (maxL := 2) (rt := .int) (own := RX8) (by decide) rfl rfl (Nat.le_of_ble_eq_true rfl) ?_
  intro p e s m args below meth c A Z ls hx hb hml hown hts hK hN hX hP hD hA hS hret hl
  have hl : lv_has ls 2 [(0, .long x0)] := hl
  have cn205 : (Cond.constantLong RX8 205 (999999999)).before args s = true := hts _ (List.mem_of_getElem? (l := wsX8_held) (i := 1) rfl)
  have cn207 : (Cond.constant RX8 207 (999999999)).before args s = true := hts _ (List.mem_of_getElem? (l := wsX8_held) (i := 2) rfl)
  unfold fX8_held at h
  refine lv_lload_n hx hb dX8_held_0 rfl (lv_at hl 0 rfl) ?_
  refine lv_ldc2 (v := 999999999) hx hb hown cn205 dX8_held_1 ?_
  refine W.lcmp hx hb dX8_held_4 ?_
  refine lv_if_le (tgt := 13) hx hb dX8_held_5 (by decide) (fun c1 => ?_) (fun c1 => ?_)
  · replace h := if_t c1 h
    refine lv_lload_n hx hb dX8_held_13 rfl (lv_at hl 0 rfl) ?_
    refine lv_l2i (v := Int64.toInt32 x0) hx hb dX8_held_14 rfl ?_
    refine lv_topi (fun n2 en2 => ?_)
    replace h := lt_at en2 h
    simp only [Option.some.injEq] at h
    subst h
    exact hret _ _ _ _ hP hS rfl dX8_held_15
  · replace h := if_f c1 h
    refine lv_ldc (v := 999999999) hx hb hown cn207 dX8_held_8 ?_
    refine lv_goto (tgt := 15) hx hb dX8_held_10 (by decide) ?_
    simp only [Option.some.injEq] at h
    subst h
    exact hret _ _ _ _ hP hS rfl dX8_held_15
theorem hdX8_held : yX8_held.cls ≠ "java/lang/invoke/MethodHandle" ∧ yX8_held.cls ≠ "java/lang/invoke/VarHandle" ∧ (parseMethodDescriptor yX8_held.desc).map (fun d => d.parameters.length) = some 1 := by decide +kernel

noncomputable def fX8_putIn (N : Nat) (ft_w : Nat → Int32) (x1 : Int32) (x2 : Int32) (x3 : Int32) : Option (Nat → Int32) := ck (x1 + x2) 240 (lt ((ft_w (Int32.toNatClampNeg (x1 + x2))) + x3) fun n2 => (if n2 ≤ 60 then ck (x1 + 45) 240 (bd (fX8_held N (((Int32.toInt64 ((upd ft_w (Int32.toNatClampNeg (x1 + x2)) n2) (Int32.toNatClampNeg (x1 + 45)))) + (Int32.toInt64 n2)) - (Int32.toInt64 ((upd ft_w (Int32.toNatClampNeg (x1 + x2)) n2) (Int32.toNatClampNeg (x1 + x2)))))) fun r5 => some (upd (upd ft_w (Int32.toNatClampNeg (x1 + x2)) n2) (Int32.toNatClampNeg (x1 + 45)) r5)) else ck (x1 + 45) 240 (bd (fX8_held N (((Int32.toInt64 ((upd ft_w (Int32.toNatClampNeg (x1 + x2)) 60) (Int32.toNatClampNeg (x1 + 45)))) + (Int32.toInt64 n2)) - (Int32.toInt64 ((upd ft_w (Int32.toNatClampNeg (x1 + x2)) 60) (Int32.toNatClampNeg (x1 + x2)))))) fun r8 => some (upd (upd ft_w (Int32.toNatClampNeg (x1 + x2)) 60) (Int32.toNatClampNeg (x1 + 45)) r8))))
set_option maxHeartbeats 4000000 in
set_option maxRecDepth 100000 in
theorem ctX8_putIn (l : Launch) (D : va_G) (cI cZ cB cS : ClassId) (kK kV : Nat → Nat) (sz : Nat) (qt qt_w qt_isKept qt_value qt_weight qt_newTube qt_newPrice qt_newLow qt_newHigh qt_newGoods qt_rhythm qt_rhythmLong qt_slug qt_text qt_of qt_buyerColumn qt_buyerKind qt_buyerCoins qt_tryRow qt_tryLong qt_tryFree : Nat) (it_kinds : Int32) (it_columns : Int32) (it_slugs : Int32) (it_newKinds : Int32) (it_newColumns : Int32) (it_newSlugs : Int32) (it_rhythmTold : Int32) (it_textSize : Int32) (it_at : Int32) (it_first : Int32) (it_length : Int32) (it_faultOf : Int32) (it_fault : Int32) (it_buyerMany : Int32) (it_tryMany : Int32) (ft_w : Nat → Int32) (x1 : Int32) (x2 : Int32) (x3 : Int32) (N : Nat) (w_ft_w : Nat → Int32) (h : fX8_putIn N ft_w x1 x2 x3 = some w_ft_w) : CtV l yX8_putIn wsX8_putIn { frames := 1, cells := 0, slots := 0, locals := 21 } D (TY cI cZ cB cS) kK kV [.ref qt, .int x1, .int x2, .int x3] [(qt, .inr (8, [.ref qt_w, .ref qt_isKept, .ref qt_value, .ref qt_weight, .ref qt_newTube, .ref qt_newPrice, .ref qt_newLow, .ref qt_newHigh, .ref qt_newGoods, .ref qt_rhythm, .ref qt_rhythmLong, .ref qt_slug, .int it_kinds, .int it_columns, .int it_slugs, .int it_newKinds, .int it_newColumns, .int it_newSlugs, .int it_rhythmTold, .ref qt_text, .int it_textSize, .int it_at, .int it_first, .int it_length, .int it_faultOf, .int it_fault, .ref qt_of, .ref qt_buyerColumn, .ref qt_buyerKind, .ref qt_buyerCoins, .int it_buyerMany, .ref qt_tryRow, .ref qt_tryLong, .ref qt_tryFree, .int it_tryMany])), (qt_w, .inl (cI, 240, .inl ft_w))] [(qt, .inr (8, [.ref qt_w, .ref qt_isKept, .ref qt_value, .ref qt_weight, .ref qt_newTube, .ref qt_newPrice, .ref qt_newLow, .ref qt_newHigh, .ref qt_newGoods, .ref qt_rhythm, .ref qt_rhythmLong, .ref qt_slug, .int it_kinds, .int it_columns, .int it_slugs, .int it_newKinds, .int it_newColumns, .int it_newSlugs, .int it_rhythmTold, .ref qt_text, .int it_textSize, .int it_at, .int it_first, .int it_length, .int it_faultOf, .int it_fault, .ref qt_of, .ref qt_buyerColumn, .ref qt_buyerKind, .ref qt_buyerCoins, .int it_buyerMany, .ref qt_tryRow, .ref qt_tryLong, .ref qt_tryFree, .int it_tryMany])), (qt_w, .inl (cI, 240, .inl w_ft_w))] sz := by
  refine mkV (cc := cX8_putIn) (maxL := 5) (own := RX8) (by decide) rfl rfl (Nat.le_of_ble_eq_true rfl) ?_
  intro p e s m args below meth c A Z ls hx hb hml hown hts hK hN hX hP hD hA hS hret hl
  have hl : lv_has ls 5 [(0, .ref qt), (1, .int x1), (2, .int x2), (3, .int x3)] := hl
  have fl7 : (Cond.fieldLink RX8 7 "SoupWallModel" "w" "[I").before args s = true := hts _ (List.mem_of_getElem? (l := wsX8_putIn) (i := 1) rfl)
  have hiX8 : ∀ w ∈ wsX80, w ∈ wsX8_putIn := fun w h => List.mem_cons_of_mem _ (List.mem_append_right _ h)
  unfold fX8_putIn at h
  refine lv_aload_n hx hb dX8_putIn_0 rfl (lv_at hl 0 rfl) ?_
  refine va_get (ci := 8) (v := .ref qt_w) (C := RX8) (T := TX8) (N := 35) hx hb hts hiX8 hown hK hP 0 rfl rfl 0 (by decide) fl7 (fun _ h9 => h9) rfl dX8_putIn_1 ?_
  refine lv_iload_n hx hb dX8_putIn_4 rfl (lv_at hl 1 rfl) ?_
  refine lv_iload_n hx hb dX8_putIn_5 rfl (lv_at hl 2 rfl) ?_
  refine lv_iadd hx hb dX8_putIn_6 ?_
  replace h := ck_el h
  obtain ⟨hi1, h⟩ := h
  refine va_iald hx hb hK hP 1 0 rfl rfl hi1 dX8_putIn_7 ?_
  refine lv_iload_n hx hb dX8_putIn_8 rfl (lv_at hl 3 rfl) ?_
  refine lv_iadd hx hb dX8_putIn_9 ?_
  refine lv_topi (fun n2 en2 => ?_)
  replace h := lt_at en2 h
  refine lv_istore (lv' := [(4, .int n2), (0, .ref qt), (1, .int x1), (2, .int x2), (3, .int x3)]) hx hb dX8_putIn_10 hl (by decide) rfl (fun ls hl => ?_)
  refine lv_aload_n hx hb dX8_putIn_12 rfl (lv_at hl 1 rfl) ?_
  refine va_get (ci := 8) (v := .ref qt_w) (C := RX8) (T := TX8) (N := 35) hx hb hts hiX8 hown hK hP 0 rfl rfl 0 (by decide) fl7 (fun _ h9 => h9) rfl dX8_putIn_13 ?_
  refine lv_iload_n hx hb dX8_putIn_16 rfl (lv_at hl 2 rfl) ?_
  refine lv_iload_n hx hb dX8_putIn_17 rfl (lv_at hl 3 rfl) ?_
  refine lv_iadd hx hb dX8_putIn_18 ?_
  refine lv_iload hx hb dX8_putIn_19 (lv_at hl 0 rfl) ?_
  refine lv_bipush (v := 60) hx hb dX8_putIn_21 (by decide) ?_
  refine lv_icmp_le (tgt := 31) hx hb dX8_putIn_23 (by decide) (fun c3 => ?_) (fun c3 => ?_)
  · replace h := if_t c3 h
    refine lv_iload hx hb dX8_putIn_31 (lv_at hl 0 rfl) ?_
    refine va_iast hx hb hK hP (dF hD rfl) hS 1 0 rfl rfl hi1 dX8_putIn_33 (fun H locs hP _ hS => ?_)
    replace hP : va_P D vwCl [(qt, .inr (8, [.ref qt_w, .ref qt_isKept, .ref qt_value, .ref qt_weight, .ref qt_newTube, .ref qt_newPrice, .ref qt_newLow, .ref qt_newHigh, .ref qt_newGoods, .ref qt_rhythm, .ref qt_rhythmLong, .ref qt_slug, .int it_kinds, .int it_columns, .int it_slugs, .int it_newKinds, .int it_newColumns, .int it_newSlugs, .int it_rhythmTold, .ref qt_text, .int it_textSize, .int it_at, .int it_first, .int it_length, .int it_faultOf, .int it_fault, .ref qt_of, .ref qt_buyerColumn, .ref qt_buyerKind, .ref qt_buyerCoins, .int it_buyerMany, .ref qt_tryRow, .ref qt_tryLong, .ref qt_tryFree, .int it_tryMany])), (qt_w, .inl (cI, 240, .inl (upd ft_w (Int32.toNatClampNeg (x1 + x2)) n2)))] H := hP
    refine lv_aload_n hx hb dX8_putIn_34 rfl (lv_at hl 1 rfl) ?_
    refine va_get (ci := 8) (v := .ref qt_w) (C := RX8) (T := TX8) (N := 35) hx hb hts hiX8 hown hK hP 0 rfl rfl 0 (by decide) fl7 (fun _ h9 => h9) rfl dX8_putIn_35 ?_
    refine lv_iload_n hx hb dX8_putIn_38 rfl (lv_at hl 2 rfl) ?_
    refine lv_bipush (v := 45) hx hb dX8_putIn_39 (by decide) ?_
    refine lv_iadd hx hb dX8_putIn_41 ?_
    refine lv_aload_n hx hb dX8_putIn_42 rfl (lv_at hl 1 rfl) ?_
    refine va_get (ci := 8) (v := .ref qt_w) (C := RX8) (T := TX8) (N := 35) hx hb hts hiX8 hown hK hP 0 rfl rfl 0 (by decide) fl7 (fun _ h9 => h9) rfl dX8_putIn_43 ?_
    refine lv_iload_n hx hb dX8_putIn_46 rfl (lv_at hl 2 rfl) ?_
    refine lv_bipush (v := 45) hx hb dX8_putIn_47 (by decide) ?_
    refine lv_iadd hx hb dX8_putIn_49 ?_
    replace h := ck_el h
    obtain ⟨hi4, h⟩ := h
    refine va_iald hx hb hK hP 1 0 rfl rfl hi4 dX8_putIn_50 ?_
    refine lv_i2l (v := Int32.toInt64 ((upd ft_w (Int32.toNatClampNeg (x1 + x2)) n2) (Int32.toNatClampNeg (x1 + 45)))) hx hb dX8_putIn_51 rfl ?_
    refine lv_iload hx hb dX8_putIn_52 (lv_at hl 0 rfl) ?_
    refine lv_i2l (v := Int32.toInt64 n2) hx hb dX8_putIn_54 rfl ?_
    refine lv_ladd hx hb dX8_putIn_55 ?_
    refine lv_aload_n hx hb dX8_putIn_56 rfl (lv_at hl 1 rfl) ?_
    refine va_get (ci := 8) (v := .ref qt_w) (C := RX8) (T := TX8) (N := 35) hx hb hts hiX8 hown hK hP 0 rfl rfl 0 (by decide) fl7 (fun _ h9 => h9) rfl dX8_putIn_57 ?_
    refine lv_iload_n hx hb dX8_putIn_60 rfl (lv_at hl 2 rfl) ?_
    refine lv_iload_n hx hb dX8_putIn_61 rfl (lv_at hl 3 rfl) ?_
    refine lv_iadd hx hb dX8_putIn_62 ?_
    refine va_iald hx hb hK hP 1 0 rfl rfl hi1 dX8_putIn_63 ?_
    refine lv_i2l (v := Int32.toInt64 ((upd ft_w (Int32.toNatClampNeg (x1 + x2)) n2) (Int32.toNatClampNeg (x1 + x2)))) hx hb dX8_putIn_64 rfl ?_
    refine lv_lsub hx hb dX8_putIn_65 ?_
    replace h := bd_el h
    obtain ⟨r5, hc6, h⟩ := h
    refine callSI (rest := [.int (x1 + 45), .ref qt_w]) ⟨hx, hb, hml, hown, hts⟩ (ctX8_held l D cI cZ cB cS kK kV _ (((Int32.toInt64 ((upd ft_w (Int32.toNatClampNeg (x1 + x2)) n2) (Int32.toNatClampNeg (x1 + 45)))) + (Int32.toInt64 n2)) - (Int32.toInt64 ((upd ft_w (Int32.toNatClampNeg (x1 + x2)) n2) (Int32.toNatClampNeg (x1 + x2))))) N r5 hc6) (va_cwS 1 hts gX8_putIn_X8_held rfl rfl rfl hdX8_held ⟨Nat.le_of_ble_eq_true rfl, Nat.le_of_ble_eq_true rfl⟩) hK hN hX hP (dF hD rfl) hS hA [] mcN (by decide +kernel) [(qt, .inr (8, [.ref qt_w, .ref qt_isKept, .ref qt_value, .ref qt_weight, .ref qt_newTube, .ref qt_newPrice, .ref qt_newLow, .ref qt_newHigh, .ref qt_newGoods, .ref qt_rhythm, .ref qt_rhythmLong, .ref qt_slug, .int it_kinds, .int it_columns, .int it_slugs, .int it_newKinds, .int it_newColumns, .int it_newSlugs, .int it_rhythmTold, .ref qt_text, .int it_textSize, .int it_at, .int it_first, .int it_length, .int it_faultOf, .int it_fault, .ref qt_of, .ref qt_buyerColumn, .ref qt_buyerKind, .ref qt_buyerCoins, .int it_buyerMany, .ref qt_tryRow, .ref qt_tryLong, .ref qt_tryFree, .int it_tryMany])), (qt_w, .inl (cI, 240, .inl (upd ft_w (Int32.toNatClampNeg (x1 + x2)) n2)))] [0, 1] mcN ((mcC rfl (mcC rfl mcN)).trans (mcC rfl (mcC rfl mcN)).symm) 2 rfl (by decide +kernel) rfl hl.1 rfl (Nat.le_of_ble_eq_true rfl) ⟨Nat.zero_le _, Nat.zero_le _⟩ dX8_putIn_66 (fun H locs hP hS => ?_)
    refine va_iast hx hb hK hP (dF hD rfl) hS 1 0 rfl rfl hi4 dX8_putIn_69 (fun H locs hP _ hS => ?_)
    replace hP : va_P D vwCl [(qt, .inr (8, [.ref qt_w, .ref qt_isKept, .ref qt_value, .ref qt_weight, .ref qt_newTube, .ref qt_newPrice, .ref qt_newLow, .ref qt_newHigh, .ref qt_newGoods, .ref qt_rhythm, .ref qt_rhythmLong, .ref qt_slug, .int it_kinds, .int it_columns, .int it_slugs, .int it_newKinds, .int it_newColumns, .int it_newSlugs, .int it_rhythmTold, .ref qt_text, .int it_textSize, .int it_at, .int it_first, .int it_length, .int it_faultOf, .int it_fault, .ref qt_of, .ref qt_buyerColumn, .ref qt_buyerKind, .ref qt_buyerCoins, .int it_buyerMany, .ref qt_tryRow, .ref qt_tryLong, .ref qt_tryFree, .int it_tryMany])), (qt_w, .inl (cI, 240, .inl (upd (upd ft_w (Int32.toNatClampNeg (x1 + x2)) n2) (Int32.toNatClampNeg (x1 + 45)) r5)))] H := hP
    simp only [Option.some.injEq] at h
    subst h
    exact hret _ _ _ _ hP hS dX8_putIn_70
  · replace h := if_f c3 h
    refine lv_bipush (v := 60) hx hb dX8_putIn_26 (by decide) ?_
    refine lv_goto (tgt := 33) hx hb dX8_putIn_28 (by decide) ?_
    refine va_iast hx hb hK hP (dF hD rfl) hS 1 0 rfl rfl hi1 dX8_putIn_33 (fun H locs hP _ hS => ?_)
    replace hP : va_P D vwCl [(qt, .inr (8, [.ref qt_w, .ref qt_isKept, .ref qt_value, .ref qt_weight, .ref qt_newTube, .ref qt_newPrice, .ref qt_newLow, .ref qt_newHigh, .ref qt_newGoods, .ref qt_rhythm, .ref qt_rhythmLong, .ref qt_slug, .int it_kinds, .int it_columns, .int it_slugs, .int it_newKinds, .int it_newColumns, .int it_newSlugs, .int it_rhythmTold, .ref qt_text, .int it_textSize, .int it_at, .int it_first, .int it_length, .int it_faultOf, .int it_fault, .ref qt_of, .ref qt_buyerColumn, .ref qt_buyerKind, .ref qt_buyerCoins, .int it_buyerMany, .ref qt_tryRow, .ref qt_tryLong, .ref qt_tryFree, .int it_tryMany])), (qt_w, .inl (cI, 240, .inl (upd ft_w (Int32.toNatClampNeg (x1 + x2)) 60)))] H := hP
    refine lv_aload_n hx hb dX8_putIn_34 rfl (lv_at hl 1 rfl) ?_
    refine va_get (ci := 8) (v := .ref qt_w) (C := RX8) (T := TX8) (N := 35) hx hb hts hiX8 hown hK hP 0 rfl rfl 0 (by decide) fl7 (fun _ h9 => h9) rfl dX8_putIn_35 ?_
    refine lv_iload_n hx hb dX8_putIn_38 rfl (lv_at hl 2 rfl) ?_
    refine lv_bipush (v := 45) hx hb dX8_putIn_39 (by decide) ?_
    refine lv_iadd hx hb dX8_putIn_41 ?_
    refine lv_aload_n hx hb dX8_putIn_42 rfl (lv_at hl 1 rfl) ?_
    refine va_get (ci := 8) (v := .ref qt_w) (C := RX8) (T := TX8) (N := 35) hx hb hts hiX8 hown hK hP 0 rfl rfl 0 (by decide) fl7 (fun _ h9 => h9) rfl dX8_putIn_43 ?_
    refine lv_iload_n hx hb dX8_putIn_46 rfl (lv_at hl 2 rfl) ?_
    refine lv_bipush (v := 45) hx hb dX8_putIn_47 (by decide) ?_
    refine lv_iadd hx hb dX8_putIn_49 ?_
    replace h := ck_el h
    obtain ⟨hi7, h⟩ := h
    refine va_iald hx hb hK hP 1 0 rfl rfl hi7 dX8_putIn_50 ?_
    refine lv_i2l (v := Int32.toInt64 ((upd ft_w (Int32.toNatClampNeg (x1 + x2)) 60) (Int32.toNatClampNeg (x1 + 45)))) hx hb dX8_putIn_51 rfl ?_
    refine lv_iload hx hb dX8_putIn_52 (lv_at hl 0 rfl) ?_
    refine lv_i2l (v := Int32.toInt64 n2) hx hb dX8_putIn_54 rfl ?_
    refine lv_ladd hx hb dX8_putIn_55 ?_
    refine lv_aload_n hx hb dX8_putIn_56 rfl (lv_at hl 1 rfl) ?_
    refine va_get (ci := 8) (v := .ref qt_w) (C := RX8) (T := TX8) (N := 35) hx hb hts hiX8 hown hK hP 0 rfl rfl 0 (by decide) fl7 (fun _ h9 => h9) rfl dX8_putIn_57 ?_
    refine lv_iload_n hx hb dX8_putIn_60 rfl (lv_at hl 2 rfl) ?_
    refine lv_iload_n hx hb dX8_putIn_61 rfl (lv_at hl 3 rfl) ?_
    refine lv_iadd hx hb dX8_putIn_62 ?_
    refine va_iald hx hb hK hP 1 0 rfl rfl hi1 dX8_putIn_63 ?_
    refine lv_i2l (v := Int32.toInt64 ((upd ft_w (Int32.toNatClampNeg (x1 + x2)) 60) (Int32.toNatClampNeg (x1 + x2)))) hx hb dX8_putIn_64 rfl ?_
    refine lv_lsub hx hb dX8_putIn_65 ?_
    replace h := bd_el h
    obtain ⟨r8, hc9, h⟩ := h
    refine callSI (rest := [.int (x1 + 45), .ref qt_w]) ⟨hx, hb, hml, hown, hts⟩ (ctX8_held l D cI cZ cB cS kK kV _ (((Int32.toInt64 ((upd ft_w (Int32.toNatClampNeg (x1 + x2)) 60) (Int32.toNatClampNeg (x1 + 45)))) + (Int32.toInt64 n2)) - (Int32.toInt64 ((upd ft_w (Int32.toNatClampNeg (x1 + x2)) 60) (Int32.toNatClampNeg (x1 + x2))))) N r8 hc9) (va_cwS 1 hts gX8_putIn_X8_held rfl rfl rfl hdX8_held ⟨Nat.le_of_ble_eq_true rfl, Nat.le_of_ble_eq_true rfl⟩) hK hN hX hP (dF hD rfl) hS hA [] mcN (by decide +kernel) [(qt, .inr (8, [.ref qt_w, .ref qt_isKept, .ref qt_value, .ref qt_weight, .ref qt_newTube, .ref qt_newPrice, .ref qt_newLow, .ref qt_newHigh, .ref qt_newGoods, .ref qt_rhythm, .ref qt_rhythmLong, .ref qt_slug, .int it_kinds, .int it_columns, .int it_slugs, .int it_newKinds, .int it_newColumns, .int it_newSlugs, .int it_rhythmTold, .ref qt_text, .int it_textSize, .int it_at, .int it_first, .int it_length, .int it_faultOf, .int it_fault, .ref qt_of, .ref qt_buyerColumn, .ref qt_buyerKind, .ref qt_buyerCoins, .int it_buyerMany, .ref qt_tryRow, .ref qt_tryLong, .ref qt_tryFree, .int it_tryMany])), (qt_w, .inl (cI, 240, .inl (upd ft_w (Int32.toNatClampNeg (x1 + x2)) 60)))] [0, 1] mcN ((mcC rfl (mcC rfl mcN)).trans (mcC rfl (mcC rfl mcN)).symm) 2 rfl (by decide +kernel) rfl hl.1 rfl (Nat.le_of_ble_eq_true rfl) ⟨Nat.zero_le _, Nat.zero_le _⟩ dX8_putIn_66 (fun H locs hP hS => ?_)
    refine va_iast hx hb hK hP (dF hD rfl) hS 1 0 rfl rfl hi7 dX8_putIn_69 (fun H locs hP _ hS => ?_)
    replace hP : va_P D vwCl [(qt, .inr (8, [.ref qt_w, .ref qt_isKept, .ref qt_value, .ref qt_weight, .ref qt_newTube, .ref qt_newPrice, .ref qt_newLow, .ref qt_newHigh, .ref qt_newGoods, .ref qt_rhythm, .ref qt_rhythmLong, .ref qt_slug, .int it_kinds, .int it_columns, .int it_slugs, .int it_newKinds, .int it_newColumns, .int it_newSlugs, .int it_rhythmTold, .ref qt_text, .int it_textSize, .int it_at, .int it_first, .int it_length, .int it_faultOf, .int it_fault, .ref qt_of, .ref qt_buyerColumn, .ref qt_buyerKind, .ref qt_buyerCoins, .int it_buyerMany, .ref qt_tryRow, .ref qt_tryLong, .ref qt_tryFree, .int it_tryMany])), (qt_w, .inl (cI, 240, .inl (upd (upd ft_w (Int32.toNatClampNeg (x1 + x2)) 60) (Int32.toNatClampNeg (x1 + 45)) r8)))] H := hP
    simp only [Option.some.injEq] at h
    subst h
    exact hret _ _ _ _ hP hS dX8_putIn_70
theorem hdX8_putIn : yX8_putIn.cls = RX8 ∧ yX8_putIn.cls ≠ "java/lang/invoke/MethodHandle" ∧ yX8_putIn.cls ≠ "java/lang/invoke/VarHandle" ∧ (parseMethodDescriptor yX8_putIn.desc).map (fun d => d.parameters.length) = some 3 := by decide +kernel

noncomputable def fX8_greatest_L4 (N : Nat) : Nat → Int32 → Int32 → Int32 → Int32 → (Nat → Int32) → Option (Int32)
  | 0, _, _, _, _, _ => none
  | k + 1, x1, x2, x3, it_kinds, ft_value => (if it_kinds ≤ x3 then some x2 else bd (fX8_has N x1 x3) fun r2 => (if r2 = 0 then (if x2 < 0 then lt (x3 + 1) fun n7 => fX8_greatest_L4 N k x1 x3 n7 it_kinds ft_value else ck x3 10 (ck x2 10 ((if (ft_value (Int32.toNatClampNeg x3)) ≤ (ft_value (Int32.toNatClampNeg x2)) then lt (x3 + 1) fun n11 => fX8_greatest_L4 N k x1 x2 n11 it_kinds ft_value else lt (x3 + 1) fun n12 => fX8_greatest_L4 N k x1 x3 n12 it_kinds ft_value)))) else lt (x3 + 1) fun n5 => fX8_greatest_L4 N k x1 x2 n5 it_kinds ft_value))
theorem fX8_greatest_L4_s (N : Nat) (k : Nat) (x1 : Int32) (x2 : Int32) (x3 : Int32) (it_kinds : Int32) (ft_value : Nat → Int32) : fX8_greatest_L4 N (k + 1) x1 x2 x3 it_kinds ft_value = ((if it_kinds ≤ x3 then some x2 else bd (fX8_has N x1 x3) fun r2 => (if r2 = 0 then (if x2 < 0 then lt (x3 + 1) fun n7 => fX8_greatest_L4 N k x1 x3 n7 it_kinds ft_value else ck x3 10 (ck x2 10 ((if (ft_value (Int32.toNatClampNeg x3)) ≤ (ft_value (Int32.toNatClampNeg x2)) then lt (x3 + 1) fun n11 => fX8_greatest_L4 N k x1 x2 n11 it_kinds ft_value else lt (x3 + 1) fun n12 => fX8_greatest_L4 N k x1 x3 n12 it_kinds ft_value)))) else lt (x3 + 1) fun n5 => fX8_greatest_L4 N k x1 x2 n5 it_kinds ft_value))) := rfl
noncomputable def fX8_greatest (N : Nat) (it_kinds : Int32) (ft_value : Nat → Int32) (x1 : Int32) : Option (Int32) := bd (fX8_greatest_L4 N N x1 (-1) 0 it_kinds ft_value) fun n14 => some n14
set_option maxHeartbeats 4000000 in
set_option maxRecDepth 100000 in
theorem ctX8_greatest (l : Launch) (D : va_G) (cI cZ cB cS : ClassId) (kK kV : Nat → Nat) (sz : Nat) (qt qt_w qt_isKept qt_value qt_weight qt_newTube qt_newPrice qt_newLow qt_newHigh qt_newGoods qt_rhythm qt_rhythmLong qt_slug qt_text qt_of qt_buyerColumn qt_buyerKind qt_buyerCoins qt_tryRow qt_tryLong qt_tryFree : Nat) (it_kinds : Int32) (it_columns : Int32) (it_slugs : Int32) (it_newKinds : Int32) (it_newColumns : Int32) (it_newSlugs : Int32) (it_rhythmTold : Int32) (it_textSize : Int32) (it_at : Int32) (it_first : Int32) (it_length : Int32) (it_faultOf : Int32) (it_fault : Int32) (it_buyerMany : Int32) (it_tryMany : Int32) (ft_value : Nat → Int32) (x1 : Int32) (N : Nat) (r0 : Int32)  (h : fX8_greatest N it_kinds ft_value x1 = some r0) : CtI l yX8_greatest wsX8_greatest { frames := 1, cells := 0, slots := 0, locals := 21 } D (TY cI cZ cB cS) kK kV [.ref qt, .int x1] [(qt, .inr (8, [.ref qt_w, .ref qt_isKept, .ref qt_value, .ref qt_weight, .ref qt_newTube, .ref qt_newPrice, .ref qt_newLow, .ref qt_newHigh, .ref qt_newGoods, .ref qt_rhythm, .ref qt_rhythmLong, .ref qt_slug, .int it_kinds, .int it_columns, .int it_slugs, .int it_newKinds, .int it_newColumns, .int it_newSlugs, .int it_rhythmTold, .ref qt_text, .int it_textSize, .int it_at, .int it_first, .int it_length, .int it_faultOf, .int it_fault, .ref qt_of, .ref qt_buyerColumn, .ref qt_buyerKind, .ref qt_buyerCoins, .int it_buyerMany, .ref qt_tryRow, .ref qt_tryLong, .ref qt_tryFree, .int it_tryMany])), (qt_value, .inl (cI, 10, .inl ft_value))] [(qt, .inr (8, [.ref qt_w, .ref qt_isKept, .ref qt_value, .ref qt_weight, .ref qt_newTube, .ref qt_newPrice, .ref qt_newLow, .ref qt_newHigh, .ref qt_newGoods, .ref qt_rhythm, .ref qt_rhythmLong, .ref qt_slug, .int it_kinds, .int it_columns, .int it_slugs, .int it_newKinds, .int it_newColumns, .int it_newSlugs, .int it_rhythmTold, .ref qt_text, .int it_textSize, .int it_at, .int it_first, .int it_length, .int it_faultOf, .int it_fault, .ref qt_of, .ref qt_buyerColumn, .ref qt_buyerKind, .ref qt_buyerCoins, .int it_buyerMany, .ref qt_tryRow, .ref qt_tryLong, .ref qt_tryFree, .int it_tryMany])), (qt_value, .inl (cI, 10, .inl ft_value))] sz r0 := by
  refine mkI (cc := cX8_greatest) (maxL := 4) (rt := .int) (own := RX8) (by decide) rfl rfl (Nat.le_of_ble_eq_true rfl) ?_
  intro p e s m args below meth c A Z ls hx hb hml hown hts hK hN hX hP hD hA hS hret hl
  have hl : lv_has ls 4 [(0, .ref qt), (1, .int x1)] := hl
  have fl164 : (Cond.fieldLink RX8 164 "SoupWallModel" "kinds" "I").before args s = true := hts _ (List.mem_of_getElem? (l := wsX8_greatest) (i := 1) rfl)
  have hiX8 : ∀ w ∈ wsX80, w ∈ wsX8_greatest := fun w h => List.mem_cons_of_mem _ (List.mem_append_right _ h)
  have fl17 : (Cond.fieldLink RX8 17 "SoupWallModel" "value" "[I").before args s = true := hts _ (List.mem_of_getElem? (l := wsX8_greatest) (i := 2) rfl)
  have lp4 : ∀ (k : Nat) (x1 : Int32) (x2 : Int32) (x3 : Int32)  (H : Heap) (locs : List Loc) (ls : Array Slot) (o : Int32), fX8_greatest_L4 N k x1 x2 x3 it_kinds ft_value = some o → va_P D vwCl [(qt, .inr (8, [.ref qt_w, .ref qt_isKept, .ref qt_value, .ref qt_weight, .ref qt_newTube, .ref qt_newPrice, .ref qt_newLow, .ref qt_newHigh, .ref qt_newGoods, .ref qt_rhythm, .ref qt_rhythmLong, .ref qt_slug, .int it_kinds, .int it_columns, .int it_slugs, .int it_newKinds, .int it_newColumns, .int it_newSlugs, .int it_rhythmTold, .ref qt_text, .int it_textSize, .int it_at, .int it_first, .int it_length, .int it_faultOf, .int it_fault, .ref qt_of, .ref qt_buyerColumn, .ref qt_buyerKind, .ref qt_buyerCoins, .int it_buyerMany, .ref qt_tryRow, .ref qt_tryLong, .ref qt_tryFree, .int it_tryMany])), (qt_value, .inl (cI, 10, .inl ft_value))] H → va_S A s.heap H locs → lv_has ls 4 [(0, .ref qt), (1, .int x1), (2, .int x2), (3, .int x3)] → (∀ (e2 : Int32), e2 = o → ∀ (H : Heap) (locs : List Loc) (ls : Array Slot), va_P D vwCl [(qt, .inr (8, [.ref qt_w, .ref qt_isKept, .ref qt_value, .ref qt_weight, .ref qt_newTube, .ref qt_newPrice, .ref qt_newLow, .ref qt_newHigh, .ref qt_newGoods, .ref qt_rhythm, .ref qt_rhythmLong, .ref qt_slug, .int it_kinds, .int it_columns, .int it_slugs, .int it_newKinds, .int it_newColumns, .int it_newSlugs, .int it_rhythmTold, .ref qt_text, .int it_textSize, .int it_at, .int it_first, .int it_length, .int it_faultOf, .int it_fault, .ref qt_of, .ref qt_buyerColumn, .ref qt_buyerKind, .ref qt_buyerCoins, .int it_buyerMany, .ref qt_tryRow, .ref qt_tryLong, .ref qt_tryFree, .int it_tryMany])), (qt_value, .inl (cI, 10, .inl ft_value))] H → va_S A s.heap H locs → lv_has ls 4 [(2, .int e2)] → W p l e ({ frames := 1, cells := 0, slots := 0, locals := 21 } : Room) s m args below meth c H locs 0 0 Z (F0 m 51 ls [])) → W p l e ({ frames := 1, cells := 0, slots := 0, locals := 21 } : Room) s m args below meth c H locs 0 0 Z (F0 m 4 ls []) := by
    intro k
    induction k with
    | zero =>
      intro x1 x2 x3 H locs ls o h
      exact nomatch (show (none : Option (Int32)) = some o from h)
    | succ k ih =>
      intro x1 x2 x3 H locs ls o h hP hS hl K
      rw [fX8_greatest_L4_s] at h
      refine lv_iload_n hx hb dX8_greatest_4 rfl (lv_at hl 3 rfl) ?_
      refine lv_aload_n hx hb dX8_greatest_5 rfl (lv_at hl 0 rfl) ?_
      refine va_get (ci := 8) (v := .int it_kinds) (C := RX8) (T := TX8) (N := 35) hx hb hts hiX8 hown hK hP 0 rfl rfl 12 (by decide) fl164 (fun _ h9 => h9) rfl dX8_greatest_6 ?_
      refine lv_icmp_ge (tgt := 51) hx hb dX8_greatest_9 (by decide) (fun c1 => ?_) (fun c1 => ?_)
      · replace h := if_t c1 h
        exact K x2 (Option.some.inj h) _ _ _ hP hS (lv_sub hl [2] rfl)
      · replace h := if_f c1 h
        refine lv_iload_n hx hb dX8_greatest_12 rfl (lv_at hl 1 rfl) ?_
        refine lv_iload_n hx hb dX8_greatest_13 rfl (lv_at hl 3 rfl) ?_
        replace h := bd_el h
        obtain ⟨r2, hc3, h⟩ := h
        refine callSI (rest := []) ⟨hx, hb, hml, hown, hts⟩ (ctX8_has l D cI cZ cB cS kK kV _ x1 x3 N r2 hc3) (va_cwS 2 hts gX8_greatest_X8_has rfl rfl rfl hdX8_has ⟨Nat.le_of_ble_eq_true rfl, Nat.le_of_ble_eq_true rfl⟩) hK hN hX hP (dF hD rfl) hS hA [] mcN (by decide +kernel) [(qt, .inr (8, [.ref qt_w, .ref qt_isKept, .ref qt_value, .ref qt_weight, .ref qt_newTube, .ref qt_newPrice, .ref qt_newLow, .ref qt_newHigh, .ref qt_newGoods, .ref qt_rhythm, .ref qt_rhythmLong, .ref qt_slug, .int it_kinds, .int it_columns, .int it_slugs, .int it_newKinds, .int it_newColumns, .int it_newSlugs, .int it_rhythmTold, .ref qt_text, .int it_textSize, .int it_at, .int it_first, .int it_length, .int it_faultOf, .int it_fault, .ref qt_of, .ref qt_buyerColumn, .ref qt_buyerKind, .ref qt_buyerCoins, .int it_buyerMany, .ref qt_tryRow, .ref qt_tryLong, .ref qt_tryFree, .int it_tryMany])), (qt_value, .inl (cI, 10, .inl ft_value))] [0, 1] mcN ((mcC rfl (mcC rfl mcN)).trans (mcC rfl (mcC rfl mcN)).symm) 2 rfl (by decide +kernel) rfl hl.1 rfl (Nat.le_of_ble_eq_true rfl) ⟨Nat.zero_le _, Nat.zero_le _⟩ dX8_greatest_14 (fun H locs hP hS => ?_)
        refine lv_if_ne (tgt := 43) hx hb dX8_greatest_17 (by decide) (fun c4 => ?_) (fun c4 => ?_)
        · replace h := if_f c4 h
          refine lv_iload_n hx hb dX8_greatest_43 rfl (lv_at hl 2 rfl) ?_
          refine lv_istore_n (lv' := [(2, .int x2), (0, .ref qt), (1, .int x1), (3, .int x3)]) hx hb dX8_greatest_44 rfl hl (by decide) rfl (fun ls hl => ?_)
          obtain ⟨n5, en5⟩ : ∃ z : Int32, z = x3 + 1 := ⟨_, rfl⟩
          replace h := lt_at en5 h
          refine lv_iinc (v := n5) (lv' := [(3, .int n5), (2, .int x2), (0, .ref qt), (1, .int x1)]) hx hb dX8_greatest_45 hl (k := 3) rfl (by rw [en5]; rfl) (by decide) rfl (fun ls hl => ?_)
          refine lv_goto (tgt := 4) hx hb dX8_greatest_48 (by decide) ?_
          exact ih x1 x2 n5 _ _ _ o h hP hS (lv_sub hl [2, 3, 1, 0] rfl) K
        · replace h := if_t c4 h
          refine lv_iload_n hx hb dX8_greatest_20 rfl (lv_at hl 2 rfl) ?_
          refine lv_if_lt (tgt := 39) hx hb dX8_greatest_21 (by decide) (fun c6 => ?_) (fun c6 => ?_)
          · replace h := if_t c6 h
            refine lv_iload_n hx hb dX8_greatest_39 rfl (lv_at hl 3 rfl) ?_
            refine lv_goto (tgt := 44) hx hb dX8_greatest_40 (by decide) ?_
            refine lv_istore_n (lv' := [(2, .int x3), (0, .ref qt), (1, .int x1), (3, .int x3)]) hx hb dX8_greatest_44 rfl hl (by decide) rfl (fun ls hl => ?_)
            obtain ⟨n7, en7⟩ : ∃ z : Int32, z = x3 + 1 := ⟨_, rfl⟩
            replace h := lt_at en7 h
            refine lv_iinc (v := n7) (lv' := [(3, .int n7), (2, .int x3), (0, .ref qt), (1, .int x1)]) hx hb dX8_greatest_45 hl (k := 3) rfl (by rw [en7]; rfl) (by decide) rfl (fun ls hl => ?_)
            refine lv_goto (tgt := 4) hx hb dX8_greatest_48 (by decide) ?_
            exact ih x1 x3 n7 _ _ _ o h hP hS (lv_sub hl [2, 3, 1, 0] rfl) K
          · replace h := if_f c6 h
            refine lv_aload_n hx hb dX8_greatest_24 rfl (lv_at hl 0 rfl) ?_
            refine va_get (ci := 8) (v := .ref qt_value) (C := RX8) (T := TX8) (N := 35) hx hb hts hiX8 hown hK hP 0 rfl rfl 2 (by decide) fl17 (fun _ h9 => h9) rfl dX8_greatest_25 ?_
            refine lv_iload_n hx hb dX8_greatest_28 rfl (lv_at hl 3 rfl) ?_
            replace h := ck_el h
            obtain ⟨hi8, h⟩ := h
            refine va_iald hx hb hK hP 1 0 rfl rfl hi8 dX8_greatest_29 ?_
            refine lv_aload_n hx hb dX8_greatest_30 rfl (lv_at hl 0 rfl) ?_
            refine va_get (ci := 8) (v := .ref qt_value) (C := RX8) (T := TX8) (N := 35) hx hb hts hiX8 hown hK hP 0 rfl rfl 2 (by decide) fl17 (fun _ h9 => h9) rfl dX8_greatest_31 ?_
            refine lv_iload_n hx hb dX8_greatest_34 rfl (lv_at hl 2 rfl) ?_
            replace h := ck_el h
            obtain ⟨hi9, h⟩ := h
            refine va_iald hx hb hK hP 1 0 rfl rfl hi9 dX8_greatest_35 ?_
            refine lv_icmp_le (tgt := 43) hx hb dX8_greatest_36 (by decide) (fun c10 => ?_) (fun c10 => ?_)
            · replace h := if_t c10 h
              refine lv_iload_n hx hb dX8_greatest_43 rfl (lv_at hl 2 rfl) ?_
              refine lv_istore_n (lv' := [(2, .int x2), (0, .ref qt), (1, .int x1), (3, .int x3)]) hx hb dX8_greatest_44 rfl hl (by decide) rfl (fun ls hl => ?_)
              obtain ⟨n11, en11⟩ : ∃ z : Int32, z = x3 + 1 := ⟨_, rfl⟩
              replace h := lt_at en11 h
              refine lv_iinc (v := n11) (lv' := [(3, .int n11), (2, .int x2), (0, .ref qt), (1, .int x1)]) hx hb dX8_greatest_45 hl (k := 3) rfl (by rw [en11]; rfl) (by decide) rfl (fun ls hl => ?_)
              refine lv_goto (tgt := 4) hx hb dX8_greatest_48 (by decide) ?_
              exact ih x1 x2 n11 _ _ _ o h hP hS (lv_sub hl [2, 3, 1, 0] rfl) K
            · replace h := if_f c10 h
              refine lv_iload_n hx hb dX8_greatest_39 rfl (lv_at hl 3 rfl) ?_
              refine lv_goto (tgt := 44) hx hb dX8_greatest_40 (by decide) ?_
              refine lv_istore_n (lv' := [(2, .int x3), (0, .ref qt), (1, .int x1), (3, .int x3)]) hx hb dX8_greatest_44 rfl hl (by decide) rfl (fun ls hl => ?_)
              obtain ⟨n12, en12⟩ : ∃ z : Int32, z = x3 + 1 := ⟨_, rfl⟩
              replace h := lt_at en12 h
              refine lv_iinc (v := n12) (lv' := [(3, .int n12), (2, .int x3), (0, .ref qt), (1, .int x1)]) hx hb dX8_greatest_45 hl (k := 3) rfl (by rw [en12]; rfl) (by decide) rfl (fun ls hl => ?_)
              refine lv_goto (tgt := 4) hx hb dX8_greatest_48 (by decide) ?_
              exact ih x1 x3 n12 _ _ _ o h hP hS (lv_sub hl [2, 3, 1, 0] rfl) K
  unfold fX8_greatest at h
  refine lv_iconst (v := (-1)) hx hb dX8_greatest_0 (by decide) ?_
  refine lv_istore_n (lv' := [(2, .int (-1)), (0, .ref qt), (1, .int x1)]) hx hb dX8_greatest_1 rfl hl (by decide) rfl (fun ls hl => ?_)
  refine lv_iconst (v := 0) hx hb dX8_greatest_2 (by decide) ?_
  refine lv_istore_n (lv' := [(3, .int 0), (2, .int (-1)), (0, .ref qt), (1, .int x1)]) hx hb dX8_greatest_3 rfl hl (by decide) rfl (fun ls hl => ?_)
  replace h := bd_el h
  obtain ⟨o13, ho13, h⟩ := h
  refine lp4 N x1 (-1) 0 _ _ _ o13 ho13 hP hS (lv_sub hl [2, 3, 1, 0] rfl) (fun n14 eo H locs ls hP hS hl => ?_)
  subst eo
  refine lv_iload_n hx hb dX8_greatest_51 rfl (lv_at hl 0 rfl) ?_
  simp only [Option.some.injEq] at h
  subst h
  exact hret _ _ _ _ hP hS rfl dX8_greatest_52
theorem hdX8_greatest : yX8_greatest.cls = RX8 ∧ yX8_greatest.cls ≠ "java/lang/invoke/MethodHandle" ∧ yX8_greatest.cls ≠ "java/lang/invoke/VarHandle" ∧ (parseMethodDescriptor yX8_greatest.desc).map (fun d => d.parameters.length) = some 1 := by decide +kernel
