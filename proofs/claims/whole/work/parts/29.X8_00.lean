noncomputable def fX8_in (N : Nat) (x0 : Int64) (x2 : Int64) (x4 : Int64) : Option (Int32) := (if (lg_cmp x0 x2) < 0 then some 0 else (if 0 < (lg_cmp x0 x4) then some 0 else some 1))
set_option maxHeartbeats 4000000 in
set_option maxRecDepth 100000 in
theorem ctX8_in (l : Launch) (D : va_G) (cI cZ cB cS : ClassId) (kK kV : Nat → Nat) (sz : Nat)  (x0 : Int64) (x2 : Int64) (x4 : Int64) (N : Nat) (r0 : Int32)  (h : fX8_in N x0 x2 x4 = some r0) : CtI l yX8_in wsX8_in { frames := 0, cells := 0, slots := 0, locals := 0 } D (TY cI cZ cB cS) kK kV [.long x0, .long x2, .long x4] [] [] sz r0 := by
  refine mkI (cc := cX8_in) (maxL := 6) (rt := .boolean) (own := RX8) (by decide) rfl rfl (Nat.le_of_ble_eq_true rfl) ?_
  intro p e s m args below meth c A Z ls hx hb hml hown hts hK hN hX hP hD hA hS hret hl
  have hl : lv_has ls 6 [(0, .long x0), (2, .long x2), (4, .long x4)] := hl
  unfold fX8_in at h
  refine lv_lload_n hx hb dX8_in_0 rfl (lv_at hl 0 rfl) ?_
  refine lv_lload_n hx hb dX8_in_1 rfl (lv_at hl 1 rfl) ?_
  refine W.lcmp hx hb dX8_in_2 ?_
  refine lv_if_lt (tgt := 17) hx hb dX8_in_3 (by decide) (fun c1 => ?_) (fun c1 => ?_)
  · replace h := if_t c1 h
    refine lv_iconst (v := 0) hx hb dX8_in_17 (by decide) ?_
    simp only [Option.some.injEq] at h
    subst h
    exact hret _ _ _ _ hP hS rfl dX8_in_18
  · replace h := if_f c1 h
    refine lv_lload_n hx hb dX8_in_6 rfl (lv_at hl 0 rfl) ?_
    refine lv_lload hx hb dX8_in_7 (lv_at hl 2 rfl) ?_
    refine W.lcmp hx hb dX8_in_9 ?_
    refine lv_if_gt (tgt := 17) hx hb dX8_in_10 (by decide) (fun c2 => ?_) (fun c2 => ?_)
    · replace h := if_t c2 h
      refine lv_iconst (v := 0) hx hb dX8_in_17 (by decide) ?_
      simp only [Option.some.injEq] at h
      subst h
      exact hret _ _ _ _ hP hS rfl dX8_in_18
    · replace h := if_f c2 h
      refine lv_iconst (v := 1) hx hb dX8_in_13 (by decide) ?_
      refine lv_goto (tgt := 18) hx hb dX8_in_14 (by decide) ?_
      simp only [Option.some.injEq] at h
      subst h
      exact hret _ _ _ _ hP hS rfl dX8_in_18
theorem hdX8_in : yX8_in.cls ≠ "java/lang/invoke/MethodHandle" ∧ yX8_in.cls ≠ "java/lang/invoke/VarHandle" ∧ (parseMethodDescriptor yX8_in.desc).map (fun d => d.parameters.length) = some 3 := by decide +kernel

noncomputable def fX8_one (N : Nat) (x0 : Int32) : Option (Int32) := (if x0 = 0 then some 0 else some 1)
set_option maxHeartbeats 4000000 in
set_option maxRecDepth 100000 in
theorem ctX8_one (l : Launch) (D : va_G) (cI cZ cB cS : ClassId) (kK kV : Nat → Nat) (sz : Nat)  (x0 : Int32) (N : Nat) (r0 : Int32)  (h : fX8_one N x0 = some r0) : CtI l yX8_one wsX8_one { frames := 0, cells := 0, slots := 0, locals := 0 } D (TY cI cZ cB cS) kK kV [.int x0] [] [] sz r0 := by
  refine mkI (cc := cX8_one) (maxL := 1) (rt := .int) (own := RX8) (by decide) rfl rfl (Nat.le_of_ble_eq_true rfl) ?_
  intro p e s m args below meth c A Z ls hx hb hml hown hts hK hN hX hP hD hA hS hret hl
  have hl : lv_has ls 1 [(0, .int x0)] := hl
  unfold fX8_one at h
  refine lv_iload_n hx hb dX8_one_0 rfl (lv_at hl 0 rfl) ?_
  refine lv_if_eq (tgt := 8) hx hb dX8_one_1 (by decide) (fun c1 => ?_) (fun c1 => ?_)
  · replace h := if_t c1 h
    refine lv_iconst (v := 0) hx hb dX8_one_8 (by decide) ?_
    simp only [Option.some.injEq] at h
    subst h
    exact hret _ _ _ _ hP hS rfl dX8_one_9
  · replace h := if_f c1 h
    refine lv_iconst (v := 1) hx hb dX8_one_4 (by decide) ?_
    refine lv_goto (tgt := 9) hx hb dX8_one_5 (by decide) ?_
    simp only [Option.some.injEq] at h
    subst h
    exact hret _ _ _ _ hP hS rfl dX8_one_9
theorem hdX8_one : yX8_one.cls ≠ "java/lang/invoke/MethodHandle" ∧ yX8_one.cls ≠ "java/lang/invoke/VarHandle" ∧ (parseMethodDescriptor yX8_one.desc).map (fun d => d.parameters.length) = some 1 := by decide +kernel

noncomputable def fX8_has (N : Nat) (x0 : Int32) (x1 : Int32) : Option (Int32) := (if ((x0 >>> (x1 &&& 31)) &&& 1) = 1 then some 1 else some 0)
set_option maxHeartbeats 4000000 in
set_option maxRecDepth 100000 in
theorem ctX8_has (l : Launch) (D : va_G) (cI cZ cB cS : ClassId) (kK kV : Nat → Nat) (sz : Nat)  (x0 : Int32) (x1 : Int32) (N : Nat) (r0 : Int32)  (h : fX8_has N x0 x1 = some r0) : CtI l yX8_has wsX8_has { frames := 0, cells := 0, slots := 0, locals := 0 } D (TY cI cZ cB cS) kK kV [.int x0, .int x1] [] [] sz r0 := by
  refine mkI (cc := cX8_has) (maxL := 2) (rt := .boolean) (own := RX8) (by decide) rfl rfl (Nat.le_of_ble_eq_true rfl) ?_
  intro p e s m args below meth c A Z ls hx hb hml hown hts hK hN hX hP hD hA hS hret hl
  have hl : lv_has ls 2 [(0, .int x0), (1, .int x1)] := hl
  unfold fX8_has at h
  refine lv_iload_n hx hb dX8_has_0 rfl (lv_at hl 0 rfl) ?_
  refine lv_iload_n hx hb dX8_has_1 rfl (lv_at hl 1 rfl) ?_
  refine lv_ishr hx hb dX8_has_2 ?_
  refine lv_iconst (v := 1) hx hb dX8_has_3 (by decide) ?_
  refine lv_iand hx hb dX8_has_4 ?_
  refine lv_iconst (v := 1) hx hb dX8_has_5 (by decide) ?_
  refine lv_icmp_ne (tgt := 13) hx hb dX8_has_6 (by decide) (fun c1 => ?_) (fun c1 => ?_)
  · replace h := if_f c1 h
    refine lv_iconst (v := 0) hx hb dX8_has_13 (by decide) ?_
    simp only [Option.some.injEq] at h
    subst h
    exact hret _ _ _ _ hP hS rfl dX8_has_14
  · replace h := if_t c1 h
    refine lv_iconst (v := 1) hx hb dX8_has_9 (by decide) ?_
    refine lv_goto (tgt := 14) hx hb dX8_has_10 (by decide) ?_
    simp only [Option.some.injEq] at h
    subst h
    exact hret _ _ _ _ hP hS rfl dX8_has_14
theorem hdX8_has : yX8_has.cls ≠ "java/lang/invoke/MethodHandle" ∧ yX8_has.cls ≠ "java/lang/invoke/VarHandle" ∧ (parseMethodDescriptor yX8_has.desc).map (fun d => d.parameters.length) = some 2 := by decide +kernel

noncomputable def fX8_feed_L35 (N : Nat) : Nat → Int64 → Int32 → Int32 → (Nat → Int32) → Option (Int32 × (Nat → Int32))
  | 0, _, _, _, _ => none
  | k + 1, x2, x4, it_textSize, ft_text => (if x4 < 0 then some (it_textSize, ft_text) else lt (Int64.toInt32 ((x2 >>> (Int32.toInt64 (8 * x4) &&& 63)) &&& 255)) fun n2 => ck it_textSize 400 (lt (it_textSize + 1) fun n4 => lt (x4 + (-1)) fun n5 => fX8_feed_L35 N k x2 n5 n4 (upd ft_text (Int32.toNatClampNeg it_textSize) n2)))
theorem fX8_feed_L35_s (N : Nat) (k : Nat) (x2 : Int64) (x4 : Int32) (it_textSize : Int32) (ft_text : Nat → Int32) : fX8_feed_L35 N (k + 1) x2 x4 it_textSize ft_text = ((if x4 < 0 then some (it_textSize, ft_text) else lt (Int64.toInt32 ((x2 >>> (Int32.toInt64 (8 * x4) &&& 63)) &&& 255)) fun n2 => ck it_textSize 400 (lt (it_textSize + 1) fun n4 => lt (x4 + (-1)) fun n5 => fX8_feed_L35 N k x2 n5 n4 (upd ft_text (Int32.toNatClampNeg it_textSize) n2)))) := rfl
noncomputable def fX8_feed (N : Nat) (it_textSize : Int32) (ft_text : Nat → Int32) (x1 : Int32) (x2 : Int64) : Option (Int32 × Int32 × (Nat → Int32)) := bd (fX8_in N (Int32.toInt64 x1) 1 8) fun r6 => (if r6 = 0 then some ((-1000000002), it_textSize, ft_text) else (if (it_textSize + x1) ≤ 400 then lt (x1 - 1) fun n10 => bd (fX8_feed_L35 N N x2 n10 it_textSize ft_text) fun (g12, g13) => some (g12, g12, g13) else some ((-1000000004), it_textSize, ft_text)))
set_option maxHeartbeats 4000000 in
set_option maxRecDepth 100000 in
theorem ctX8_feed (l : Launch) (D : va_G) (cI cZ cB cS : ClassId) (kK kV : Nat → Nat) (sz : Nat) (qt qt_w qt_isKept qt_value qt_weight qt_newTube qt_newPrice qt_newLow qt_newHigh qt_newGoods qt_rhythm qt_rhythmLong qt_slug qt_text qt_of qt_buyerColumn qt_buyerKind qt_buyerCoins qt_tryRow qt_tryLong qt_tryFree : Nat) (it_kinds : Int32) (it_columns : Int32) (it_slugs : Int32) (it_newKinds : Int32) (it_newColumns : Int32) (it_newSlugs : Int32) (it_rhythmTold : Int32) (it_textSize : Int32) (it_at : Int32) (it_first : Int32) (it_length : Int32) (it_faultOf : Int32) (it_fault : Int32) (it_buyerMany : Int32) (it_tryMany : Int32) (ft_text : Nat → Int32) (x1 : Int32) (x2 : Int64) (N : Nat) (r0 : Int32) (w_it_textSize : Int32) (w_ft_text : Nat → Int32) (h : fX8_feed N it_textSize ft_text x1 x2 = some (r0, w_it_textSize, w_ft_text)) : CtI l yX8_feed wsX8_feed { frames := 1, cells := 0, slots := 0, locals := 25 } D (TY cI cZ cB cS) kK kV [.ref qt, .int x1, .long x2] [(qt, .inr (8, [.ref qt_w, .ref qt_isKept, .ref qt_value, .ref qt_weight, .ref qt_newTube, .ref qt_newPrice, .ref qt_newLow, .ref qt_newHigh, .ref qt_newGoods, .ref qt_rhythm, .ref qt_rhythmLong, .ref qt_slug, .int it_kinds, .int it_columns, .int it_slugs, .int it_newKinds, .int it_newColumns, .int it_newSlugs, .int it_rhythmTold, .ref qt_text, .int it_textSize, .int it_at, .int it_first, .int it_length, .int it_faultOf, .int it_fault, .ref qt_of, .ref qt_buyerColumn, .ref qt_buyerKind, .ref qt_buyerCoins, .int it_buyerMany, .ref qt_tryRow, .ref qt_tryLong, .ref qt_tryFree, .int it_tryMany])), (qt_text, .inl (cI, 400, .inl ft_text))] [(qt, .inr (8, [.ref qt_w, .ref qt_isKept, .ref qt_value, .ref qt_weight, .ref qt_newTube, .ref qt_newPrice, .ref qt_newLow, .ref qt_newHigh, .ref qt_newGoods, .ref qt_rhythm, .ref qt_rhythmLong, .ref qt_slug, .int it_kinds, .int it_columns, .int it_slugs, .int it_newKinds, .int it_newColumns, .int it_newSlugs, .int it_rhythmTold, .ref qt_text, .int w_it_textSize, .int it_at, .int it_first, .int it_length, .int it_faultOf, .int it_fault, .ref qt_of, .ref qt_buyerColumn, .ref qt_buyerKind, .ref qt_buyerCoins, .int it_buyerMany, .ref qt_tryRow, .ref qt_tryLong, .ref qt_tryFree, .int it_tryMany])), (qt_text, .inl (cI, 400, .inl w_ft_text))] sz r0 := by
  refine mkI (cc := cX8_feed) (maxL := 5) (rt := .int) (own := RX8) (by decide) rfl rfl (Nat.le_of_ble_eq_true rfl) ?_
  intro p e s m args below meth c A Z ls hx hb hml hown hts hK hN hX hP hD hA hS hret hl
  have hl : lv_has ls 5 [(0, .ref qt), (1, .int x1), (2, .long x2)] := hl
  have fl47 : (Cond.fieldLink RX8 47 "SoupWallModel" "text" "[I").before args s = true := hts _ (List.mem_of_getElem? (l := wsX8_feed) (i := 5) rfl)
  have hiX8 : ∀ w ∈ wsX80, w ∈ wsX8_feed := fun w h => List.mem_cons_of_mem _ (List.mem_append_right _ h)
  have fl82 : (Cond.fieldLink RX8 82 "SoupWallModel" "textSize" "I").before args s = true := hts _ (List.mem_of_getElem? (l := wsX8_feed) (i := 3) rfl)
  have cn86 : (Cond.constantLong RX8 86 (255)).before args s = true := hts _ (List.mem_of_getElem? (l := wsX8_feed) (i := 6) rfl)
  have cn75 : (Cond.constantLong RX8 75 (8)).before args s = true := hts _ (List.mem_of_getElem? (l := wsX8_feed) (i := 1) rfl)
  have cn85 : (Cond.constant RX8 85 (-1000000004)).before args s = true := hts _ (List.mem_of_getElem? (l := wsX8_feed) (i := 4) rfl)
  have cn81 : (Cond.constant RX8 81 (-1000000002)).before args s = true := hts _ (List.mem_of_getElem? (l := wsX8_feed) (i := 2) rfl)
  have lp35 : ∀ (k : Nat) (x2 : Int64) (x4 : Int32) (it_textSize : Int32) (ft_text : Nat → Int32) (H : Heap) (locs : List Loc) (ls : Array Slot) (o : Int32 × (Nat → Int32)), fX8_feed_L35 N k x2 x4 it_textSize ft_text = some o → va_P D vwCl [(qt, .inr (8, [.ref qt_w, .ref qt_isKept, .ref qt_value, .ref qt_weight, .ref qt_newTube, .ref qt_newPrice, .ref qt_newLow, .ref qt_newHigh, .ref qt_newGoods, .ref qt_rhythm, .ref qt_rhythmLong, .ref qt_slug, .int it_kinds, .int it_columns, .int it_slugs, .int it_newKinds, .int it_newColumns, .int it_newSlugs, .int it_rhythmTold, .ref qt_text, .int it_textSize, .int it_at, .int it_first, .int it_length, .int it_faultOf, .int it_fault, .ref qt_of, .ref qt_buyerColumn, .ref qt_buyerKind, .ref qt_buyerCoins, .int it_buyerMany, .ref qt_tryRow, .ref qt_tryLong, .ref qt_tryFree, .int it_tryMany])), (qt_text, .inl (cI, 400, .inl ft_text))] H → va_S A s.heap H locs → lv_has ls 5 [(0, .ref qt), (2, .long x2), (4, .int x4)] → (∀ (e_it_textSize : Int32) (e_ft_text : Nat → Int32), (e_it_textSize, e_ft_text) = o → ∀ (H : Heap) (locs : List Loc) (ls : Array Slot), va_P D vwCl [(qt, .inr (8, [.ref qt_w, .ref qt_isKept, .ref qt_value, .ref qt_weight, .ref qt_newTube, .ref qt_newPrice, .ref qt_newLow, .ref qt_newHigh, .ref qt_newGoods, .ref qt_rhythm, .ref qt_rhythmLong, .ref qt_slug, .int it_kinds, .int it_columns, .int it_slugs, .int it_newKinds, .int it_newColumns, .int it_newSlugs, .int it_rhythmTold, .ref qt_text, .int e_it_textSize, .int it_at, .int it_first, .int it_length, .int it_faultOf, .int it_fault, .ref qt_of, .ref qt_buyerColumn, .ref qt_buyerKind, .ref qt_buyerCoins, .int it_buyerMany, .ref qt_tryRow, .ref qt_tryLong, .ref qt_tryFree, .int it_tryMany])), (qt_text, .inl (cI, 400, .inl e_ft_text))] H → va_S A s.heap H locs → lv_has ls 5 [(0, .ref qt)] → W p l e ({ frames := 1, cells := 0, slots := 0, locals := 25 } : Room) s m args below meth c H locs 0 0 Z (F0 m 77 ls [])) → W p l e ({ frames := 1, cells := 0, slots := 0, locals := 25 } : Room) s m args below meth c H locs 0 0 Z (F0 m 35 ls []) := by
    intro k
    induction k with
    | zero =>
      intro x2 x4 it_textSize ft_text H locs ls o h
      exact nomatch (show (none : Option (Int32 × (Nat → Int32))) = some o from h)
    | succ k ih =>
      intro x2 x4 it_textSize ft_text H locs ls o h hP hS hl K
      rw [fX8_feed_L35_s] at h
      refine lv_iload hx hb dX8_feed_35 (lv_at hl 2 rfl) ?_
      refine lv_if_lt (tgt := 77) hx hb dX8_feed_37 (by decide) (fun c1 => ?_) (fun c1 => ?_)
      · replace h := if_t c1 h
        exact K it_textSize ft_text (Option.some.inj h) _ _ _ hP hS (lv_sub hl [0] rfl)
      · replace h := if_f c1 h
        refine lv_aload_n hx hb dX8_feed_40 rfl (lv_at hl 0 rfl) ?_
        refine va_get (ci := 8) (v := .ref qt_text) (C := RX8) (T := TX8) (N := 35) hx hb hts hiX8 hown hK hP 0 rfl rfl 19 (by decide) fl47 (fun _ h9 => h9) rfl dX8_feed_41 ?_
        refine lv_aload_n hx hb dX8_feed_44 rfl (lv_at hl 0 rfl) ?_
        refine va_get (ci := 8) (v := .int it_textSize) (C := RX8) (T := TX8) (N := 35) hx hb hts hiX8 hown hK hP 0 rfl rfl 20 (by decide) fl82 (fun _ h9 => h9) rfl dX8_feed_45 ?_
        refine lv_lload_n hx hb dX8_feed_48 rfl (lv_at hl 1 rfl) ?_
        refine lv_bipush (v := 8) hx hb dX8_feed_49 (by decide) ?_
        refine lv_iload hx hb dX8_feed_51 (lv_at hl 2 rfl) ?_
        refine lv_imul hx hb dX8_feed_53 ?_
        refine lv_lshr (v := x2 >>> (Int32.toInt64 (8 * x4) &&& 63)) hx hb dX8_feed_54 rfl ?_
        refine lv_ldc2 (v := 255) hx hb hown cn86 dX8_feed_55 ?_
        refine lv_land hx hb dX8_feed_58 ?_
        refine lv_l2i (v := Int64.toInt32 ((x2 >>> (Int32.toInt64 (8 * x4) &&& 63)) &&& 255)) hx hb dX8_feed_59 rfl ?_
        refine lv_topi (fun n2 en2 => ?_)
        replace h := lt_at en2 h
        replace h := ck_el h
        obtain ⟨hi3, h⟩ := h
        refine va_iast hx hb hK hP (dF hD rfl) hS 1 0 rfl rfl hi3 dX8_feed_60 (fun H locs hP _ hS => ?_)
        replace hP : va_P D vwCl [(qt, .inr (8, [.ref qt_w, .ref qt_isKept, .ref qt_value, .ref qt_weight, .ref qt_newTube, .ref qt_newPrice, .ref qt_newLow, .ref qt_newHigh, .ref qt_newGoods, .ref qt_rhythm, .ref qt_rhythmLong, .ref qt_slug, .int it_kinds, .int it_columns, .int it_slugs, .int it_newKinds, .int it_newColumns, .int it_newSlugs, .int it_rhythmTold, .ref qt_text, .int it_textSize, .int it_at, .int it_first, .int it_length, .int it_faultOf, .int it_fault, .ref qt_of, .ref qt_buyerColumn, .ref qt_buyerKind, .ref qt_buyerCoins, .int it_buyerMany, .ref qt_tryRow, .ref qt_tryLong, .ref qt_tryFree, .int it_tryMany])), (qt_text, .inl (cI, 400, .inl (upd ft_text (Int32.toNatClampNeg it_textSize) n2)))] H := hP
        refine lv_aload_n hx hb dX8_feed_61 rfl (lv_at hl 0 rfl) ?_
        refine lv_dup hx hb dX8_feed_62 rfl ?_
        refine va_get (ci := 8) (v := .int it_textSize) (C := RX8) (T := TX8) (N := 35) hx hb hts hiX8 hown hK hP 0 rfl rfl 20 (by decide) fl82 (fun _ h9 => h9) rfl dX8_feed_63 ?_
        refine lv_iconst (v := 1) hx hb dX8_feed_66 (by decide) ?_
        refine lv_iadd hx hb dX8_feed_67 ?_
        refine lv_topi (fun n4 en4 => ?_)
        replace h := lt_at en4 h
        refine va_put (ci := 8) (v := .int n4) (ty := .int) (C := RX8) (T := TX8) (N := 35) hx hb hts hiX8 tyX8 tyX8_ok nmX8 hown hK hP (dF hD rfl) hS 0 rfl rfl 20 (by decide) fl82 (fun _ h9 => h9) rfl (by decide +kernel) rfl rfl (Nat.le_of_ble_eq_true rfl) dX8_feed_68 (fun H locs hP _ hS => ?_)
        replace hP : va_P D vwCl [(qt, .inr (8, [.ref qt_w, .ref qt_isKept, .ref qt_value, .ref qt_weight, .ref qt_newTube, .ref qt_newPrice, .ref qt_newLow, .ref qt_newHigh, .ref qt_newGoods, .ref qt_rhythm, .ref qt_rhythmLong, .ref qt_slug, .int it_kinds, .int it_columns, .int it_slugs, .int it_newKinds, .int it_newColumns, .int it_newSlugs, .int it_rhythmTold, .ref qt_text, .int n4, .int it_at, .int it_first, .int it_length, .int it_faultOf, .int it_fault, .ref qt_of, .ref qt_buyerColumn, .ref qt_buyerKind, .ref qt_buyerCoins, .int it_buyerMany, .ref qt_tryRow, .ref qt_tryLong, .ref qt_tryFree, .int it_tryMany])), (qt_text, .inl (cI, 400, .inl (upd ft_text (Int32.toNatClampNeg it_textSize) n2)))] H := hP
        obtain ⟨n5, en5⟩ : ∃ z : Int32, z = x4 + (-1) := ⟨_, rfl⟩
        replace h := lt_at en5 h
        refine lv_iinc (v := n5) (lv' := [(4, .int n5), (0, .ref qt), (2, .long x2)]) hx hb dX8_feed_71 hl (k := 2) rfl (by rw [en5]; rfl) (by decide) rfl (fun ls hl => ?_)
        refine lv_goto (tgt := 35) hx hb dX8_feed_74 (by decide) ?_
        exact ih x2 n5 n4 (upd ft_text (Int32.toNatClampNeg it_textSize) n2) _ _ _ o h hP hS (lv_sub hl [1, 2, 0] rfl) K
  unfold fX8_feed at h
  refine lv_iload_n hx hb dX8_feed_0 rfl (lv_at hl 1 rfl) ?_
  refine lv_i2l (v := Int32.toInt64 x1) hx hb dX8_feed_1 rfl ?_
  refine lv_lconst (v := 1) hx hb dX8_feed_2 (by decide) ?_
  refine lv_ldc2 (v := 8) hx hb hown cn75 dX8_feed_3 ?_
  replace h := bd_el h
  obtain ⟨r6, hc7, h⟩ := h
  refine callSI (rest := []) ⟨hx, hb, hml, hown, hts⟩ (ctX8_in l D cI cZ cB cS kK kV _ (Int32.toInt64 x1) 1 8 N r6 hc7) (va_cwS 3 hts gX8_feed_X8_in rfl rfl rfl hdX8_in ⟨Nat.le_of_ble_eq_true rfl, Nat.le_of_ble_eq_true rfl⟩) hK hN hX hP (dF hD rfl) hS hA [] mcN (by decide +kernel) [(qt, .inr (8, [.ref qt_w, .ref qt_isKept, .ref qt_value, .ref qt_weight, .ref qt_newTube, .ref qt_newPrice, .ref qt_newLow, .ref qt_newHigh, .ref qt_newGoods, .ref qt_rhythm, .ref qt_rhythmLong, .ref qt_slug, .int it_kinds, .int it_columns, .int it_slugs, .int it_newKinds, .int it_newColumns, .int it_newSlugs, .int it_rhythmTold, .ref qt_text, .int it_textSize, .int it_at, .int it_first, .int it_length, .int it_faultOf, .int it_fault, .ref qt_of, .ref qt_buyerColumn, .ref qt_buyerKind, .ref qt_buyerCoins, .int it_buyerMany, .ref qt_tryRow, .ref qt_tryLong, .ref qt_tryFree, .int it_tryMany])), (qt_text, .inl (cI, 400, .inl ft_text))] [0, 1] mcN ((mcC rfl (mcC rfl mcN)).trans (mcC rfl (mcC rfl mcN)).symm) 2 rfl (by decide +kernel) rfl hl.1 rfl (Nat.le_of_ble_eq_true rfl) ⟨Nat.zero_le _, Nat.zero_le _⟩ dX8_feed_6 (fun H locs hP hS => ?_)
  refine lv_if_ne (tgt := 15) hx hb dX8_feed_9 (by decide) (fun c8 => ?_) (fun c8 => ?_)
  · replace h := if_f c8 h
    refine lv_aload_n hx hb dX8_feed_15 rfl (lv_at hl 0 rfl) ?_
    refine va_get (ci := 8) (v := .int it_textSize) (C := RX8) (T := TX8) (N := 35) hx hb hts hiX8 hown hK hP 0 rfl rfl 20 (by decide) fl82 (fun _ h9 => h9) rfl dX8_feed_16 ?_
    refine lv_iload_n hx hb dX8_feed_19 rfl (lv_at hl 1 rfl) ?_
    refine lv_iadd hx hb dX8_feed_20 ?_
    refine lv_sipush (v := 400) hx hb dX8_feed_21 (by decide) ?_
    refine lv_icmp_le (tgt := 30) hx hb dX8_feed_24 (by decide) (fun c9 => ?_) (fun c9 => ?_)
    · replace h := if_t c9 h
      refine lv_iload_n hx hb dX8_feed_30 rfl (lv_at hl 1 rfl) ?_
      refine lv_iconst (v := 1) hx hb dX8_feed_31 (by decide) ?_
      refine lv_isub hx hb dX8_feed_32 ?_
      refine lv_topi (fun n10 en10 => ?_)
      replace h := lt_at en10 h
      refine lv_istore (lv' := [(4, .int n10), (0, .ref qt), (1, .int x1), (2, .long x2)]) hx hb dX8_feed_33 hl (by decide) rfl (fun ls hl => ?_)
      replace h := bd_el h
      obtain ⟨o11, ho11, h⟩ := h
      refine lp35 N x2 n10 it_textSize ft_text _ _ _ o11 ho11 hP hS (lv_sub hl [1, 3, 0] rfl) (fun g12 g13 eo H locs ls hP hS hl => ?_)
      subst eo
      refine lv_aload_n hx hb dX8_feed_77 rfl (lv_at hl 0 rfl) ?_
      refine va_get (ci := 8) (v := .int g12) (C := RX8) (T := TX8) (N := 35) hx hb hts hiX8 hown hK hP 0 rfl rfl 20 (by decide) fl82 (fun _ h9 => h9) rfl dX8_feed_78 ?_
      simp only [Option.some.injEq, Prod.mk.injEq] at h
      obtain ⟨rfl, rfl, rfl⟩ := h
      exact hret _ _ _ _ hP hS rfl dX8_feed_81
    · replace h := if_f c9 h
      refine lv_ldc (v := (-1000000004)) hx hb hown cn85 dX8_feed_27 ?_
      simp only [Option.some.injEq, Prod.mk.injEq] at h
      obtain ⟨rfl, rfl, rfl⟩ := h
      exact hret _ _ _ _ hP hS rfl dX8_feed_29
  · replace h := if_t c8 h
    refine lv_ldc (v := (-1000000002)) hx hb hown cn81 dX8_feed_12 ?_
    simp only [Option.some.injEq, Prod.mk.injEq] at h
    obtain ⟨rfl, rfl, rfl⟩ := h
    exact hret _ _ _ _ hP hS rfl dX8_feed_14
theorem hdX8_feed : yX8_feed.cls = RX8 ∧ yX8_feed.cls ≠ "java/lang/invoke/MethodHandle" ∧ yX8_feed.cls ≠ "java/lang/invoke/VarHandle" ∧ (parseMethodDescriptor yX8_feed.desc).map (fun d => d.parameters.length) = some 2 := by decide +kernel

noncomputable def fX8_here_L0 (N : Nat) : Nat → Int32 → Int32 → (Nat → Int32) → Option (Int32)
  | 0, _, _, _ => none
  | k + 1, it_textSize, it_at, ft_text => (if it_textSize ≤ it_at then some it_at else ck it_at 400 ((if (ft_text (Int32.toNatClampNeg it_at)) = 32 then lt (it_at + 1) fun n4 => fX8_here_L0 N k it_textSize n4 ft_text else some it_at)))
theorem fX8_here_L0_s (N : Nat) (k : Nat) (it_textSize : Int32) (it_at : Int32) (ft_text : Nat → Int32) : fX8_here_L0 N (k + 1) it_textSize it_at ft_text = ((if it_textSize ≤ it_at then some it_at else ck it_at 400 ((if (ft_text (Int32.toNatClampNeg it_at)) = 32 then lt (it_at + 1) fun n4 => fX8_here_L0 N k it_textSize n4 ft_text else some it_at)))) := rfl
noncomputable def fX8_here (N : Nat) (it_textSize : Int32) (it_at : Int32) (ft_text : Nat → Int32) : Option (Int32 × Int32) := (if it_textSize ≤ it_at then (if it_textSize ≤ it_at then some ((-1), it_at) else ck it_at 400 (lt (ft_text (Int32.toNatClampNeg it_at)) fun n8 => some (n8, it_at))) else ck it_at 400 ((if (ft_text (Int32.toNatClampNeg it_at)) = 32 then lt (it_at + 1) fun n13 => bd (fX8_here_L0 N N it_textSize n13 ft_text) fun g15 => (if it_textSize ≤ g15 then some ((-1), g15) else ck g15 400 (lt (ft_text (Int32.toNatClampNeg g15)) fun n18 => some (n18, g15))) else (if it_textSize ≤ it_at then some ((-1), it_at) else lt (ft_text (Int32.toNatClampNeg it_at)) fun n12 => some (n12, it_at)))))
set_option maxHeartbeats 4000000 in
set_option maxRecDepth 100000 in
theorem ctX8_here (l : Launch) (D : va_G) (cI cZ cB cS : ClassId) (kK kV : Nat → Nat) (sz : Nat) (qt qt_w qt_isKept qt_value qt_weight qt_newTube qt_newPrice qt_newLow qt_newHigh qt_newGoods qt_rhythm qt_rhythmLong qt_slug qt_text qt_of qt_buyerColumn qt_buyerKind qt_buyerCoins qt_tryRow qt_tryLong qt_tryFree : Nat) (it_kinds : Int32) (it_columns : Int32) (it_slugs : Int32) (it_newKinds : Int32) (it_newColumns : Int32) (it_newSlugs : Int32) (it_rhythmTold : Int32) (it_textSize : Int32) (it_at : Int32) (it_first : Int32) (it_length : Int32) (it_faultOf : Int32) (it_fault : Int32) (it_buyerMany : Int32) (it_tryMany : Int32) (ft_text : Nat → Int32)  (N : Nat) (r0 : Int32) (w_it_at : Int32) (h : fX8_here N it_textSize it_at ft_text = some (r0, w_it_at)) : CtI l yX8_here wsX8_here { frames := 0, cells := 0, slots := 0, locals := 0 } D (TY cI cZ cB cS) kK kV [.ref qt] [(qt, .inr (8, [.ref qt_w, .ref qt_isKept, .ref qt_value, .ref qt_weight, .ref qt_newTube, .ref qt_newPrice, .ref qt_newLow, .ref qt_newHigh, .ref qt_newGoods, .ref qt_rhythm, .ref qt_rhythmLong, .ref qt_slug, .int it_kinds, .int it_columns, .int it_slugs, .int it_newKinds, .int it_newColumns, .int it_newSlugs, .int it_rhythmTold, .ref qt_text, .int it_textSize, .int it_at, .int it_first, .int it_length, .int it_faultOf, .int it_fault, .ref qt_of, .ref qt_buyerColumn, .ref qt_buyerKind, .ref qt_buyerCoins, .int it_buyerMany, .ref qt_tryRow, .ref qt_tryLong, .ref qt_tryFree, .int it_tryMany])), (qt_text, .inl (cI, 400, .inl ft_text))] [(qt, .inr (8, [.ref qt_w, .ref qt_isKept, .ref qt_value, .ref qt_weight, .ref qt_newTube, .ref qt_newPrice, .ref qt_newLow, .ref qt_newHigh, .ref qt_newGoods, .ref qt_rhythm, .ref qt_rhythmLong, .ref qt_slug, .int it_kinds, .int it_columns, .int it_slugs, .int it_newKinds, .int it_newColumns, .int it_newSlugs, .int it_rhythmTold, .ref qt_text, .int it_textSize, .int w_it_at, .int it_first, .int it_length, .int it_faultOf, .int it_fault, .ref qt_of, .ref qt_buyerColumn, .ref qt_buyerKind, .ref qt_buyerCoins, .int it_buyerMany, .ref qt_tryRow, .ref qt_tryLong, .ref qt_tryFree, .int it_tryMany])), (qt_text, .inl (cI, 400, .inl ft_text))] sz r0 := by
  refine mkI (cc := cX8_here) (maxL := 1) (rt := .int) (own := RX8) (by decide) rfl rfl (Nat.le_of_ble_eq_true rfl) ?_
  intro p e s m args below meth c A Z ls hx hb hml hown hts hK hN hX hP hD hA hS hret hl
  have hl : lv_has ls 1 [(0, .ref qt)] := hl
  have fl88 : (Cond.fieldLink RX8 88 "SoupWallModel" "at" "I").before args s = true := hts _ (List.mem_of_getElem? (l := wsX8_here) (i := 1) rfl)
  have hiX8 : ∀ w ∈ wsX80, w ∈ wsX8_here := fun w h => List.mem_cons_of_mem _ (List.mem_append_right _ h)
  have fl82 : (Cond.fieldLink RX8 82 "SoupWallModel" "textSize" "I").before args s = true := hts _ (List.mem_of_getElem? (l := wsX8_here) (i := 2) rfl)
  have fl47 : (Cond.fieldLink RX8 47 "SoupWallModel" "text" "[I").before args s = true := hts _ (List.mem_of_getElem? (l := wsX8_here) (i := 3) rfl)
  have lp0 : ∀ (k : Nat)  (it_at : Int32) (H : Heap) (locs : List Loc) (ls : Array Slot) (o : Int32), fX8_here_L0 N k it_textSize it_at ft_text = some o → va_P D vwCl [(qt, .inr (8, [.ref qt_w, .ref qt_isKept, .ref qt_value, .ref qt_weight, .ref qt_newTube, .ref qt_newPrice, .ref qt_newLow, .ref qt_newHigh, .ref qt_newGoods, .ref qt_rhythm, .ref qt_rhythmLong, .ref qt_slug, .int it_kinds, .int it_columns, .int it_slugs, .int it_newKinds, .int it_newColumns, .int it_newSlugs, .int it_rhythmTold, .ref qt_text, .int it_textSize, .int it_at, .int it_first, .int it_length, .int it_faultOf, .int it_fault, .ref qt_of, .ref qt_buyerColumn, .ref qt_buyerKind, .ref qt_buyerCoins, .int it_buyerMany, .ref qt_tryRow, .ref qt_tryLong, .ref qt_tryFree, .int it_tryMany])), (qt_text, .inl (cI, 400, .inl ft_text))] H → va_S A s.heap H locs → lv_has ls 1 [(0, .ref qt)] → (∀ (e_it_at : Int32), e_it_at = o → ∀ (H : Heap) (locs : List Loc) (ls : Array Slot), va_P D vwCl [(qt, .inr (8, [.ref qt_w, .ref qt_isKept, .ref qt_value, .ref qt_weight, .ref qt_newTube, .ref qt_newPrice, .ref qt_newLow, .ref qt_newHigh, .ref qt_newGoods, .ref qt_rhythm, .ref qt_rhythmLong, .ref qt_slug, .int it_kinds, .int it_columns, .int it_slugs, .int it_newKinds, .int it_newColumns, .int it_newSlugs, .int it_rhythmTold, .ref qt_text, .int it_textSize, .int e_it_at, .int it_first, .int it_length, .int it_faultOf, .int it_fault, .ref qt_of, .ref qt_buyerColumn, .ref qt_buyerKind, .ref qt_buyerCoins, .int it_buyerMany, .ref qt_tryRow, .ref qt_tryLong, .ref qt_tryFree, .int it_tryMany])), (qt_text, .inl (cI, 400, .inl ft_text))] H → va_S A s.heap H locs → lv_has ls 1 [(0, .ref qt)] → W p l e ({ frames := 0, cells := 0, slots := 0, locals := 0 } : Room) s m args below meth c H locs 0 0 Z (F0 m 38 ls [])) → W p l e ({ frames := 0, cells := 0, slots := 0, locals := 0 } : Room) s m args below meth c H locs 0 0 Z (F0 m 0 ls []) := by
    intro k
    induction k with
    | zero =>
      intro it_at H locs ls o h
      exact nomatch (show (none : Option (Int32)) = some o from h)
    | succ k ih =>
      intro it_at H locs ls o h hP hS hl K
      rw [fX8_here_L0_s] at h
      refine lv_aload_n hx hb dX8_here_0 rfl (lv_at hl 0 rfl) ?_
      refine va_get (ci := 8) (v := .int it_at) (C := RX8) (T := TX8) (N := 35) hx hb hts hiX8 hown hK hP 0 rfl rfl 21 (by decide) fl88 (fun _ h9 => h9) rfl dX8_here_1 ?_
      refine lv_aload_n hx hb dX8_here_4 rfl (lv_at hl 0 rfl) ?_
      refine va_get (ci := 8) (v := .int it_textSize) (C := RX8) (T := TX8) (N := 35) hx hb hts hiX8 hown hK hP 0 rfl rfl 20 (by decide) fl82 (fun _ h9 => h9) rfl dX8_here_5 ?_
      refine lv_icmp_ge (tgt := 38) hx hb dX8_here_8 (by decide) (fun c1 => ?_) (fun c1 => ?_)
      · replace h := if_t c1 h
        exact K it_at (Option.some.inj h) _ _ _ hP hS (lv_sub hl [0] rfl)
      · replace h := if_f c1 h
        refine lv_aload_n hx hb dX8_here_11 rfl (lv_at hl 0 rfl) ?_
        refine va_get (ci := 8) (v := .ref qt_text) (C := RX8) (T := TX8) (N := 35) hx hb hts hiX8 hown hK hP 0 rfl rfl 19 (by decide) fl47 (fun _ h9 => h9) rfl dX8_here_12 ?_
        refine lv_aload_n hx hb dX8_here_15 rfl (lv_at hl 0 rfl) ?_
        refine va_get (ci := 8) (v := .int it_at) (C := RX8) (T := TX8) (N := 35) hx hb hts hiX8 hown hK hP 0 rfl rfl 21 (by decide) fl88 (fun _ h9 => h9) rfl dX8_here_16 ?_
        replace h := ck_el h
        obtain ⟨hi2, h⟩ := h
        refine va_iald hx hb hK hP 1 0 rfl rfl hi2 dX8_here_19 ?_
        refine lv_bipush (v := 32) hx hb dX8_here_20 (by decide) ?_
        refine lv_icmp_ne (tgt := 38) hx hb dX8_here_22 (by decide) (fun c3 => ?_) (fun c3 => ?_)
        · replace h := if_f c3 h
          exact K it_at (Option.some.inj h) _ _ _ hP hS (lv_sub hl [0] rfl)
        · replace h := if_t c3 h
          refine lv_aload_n hx hb dX8_here_25 rfl (lv_at hl 0 rfl) ?_
          refine lv_dup hx hb dX8_here_26 rfl ?_
          refine va_get (ci := 8) (v := .int it_at) (C := RX8) (T := TX8) (N := 35) hx hb hts hiX8 hown hK hP 0 rfl rfl 21 (by decide) fl88 (fun _ h9 => h9) rfl dX8_here_27 ?_
          refine lv_iconst (v := 1) hx hb dX8_here_30 (by decide) ?_
          refine lv_iadd hx hb dX8_here_31 ?_
          refine lv_topi (fun n4 en4 => ?_)
          replace h := lt_at en4 h
          refine va_put (ci := 8) (v := .int n4) (ty := .int) (C := RX8) (T := TX8) (N := 35) hx hb hts hiX8 tyX8 tyX8_ok nmX8 hown hK hP (dF hD rfl) hS 0 rfl rfl 21 (by decide) fl88 (fun _ h9 => h9) rfl (by decide +kernel) rfl rfl (Nat.le_of_ble_eq_true rfl) dX8_here_32 (fun H locs hP _ hS => ?_)
          replace hP : va_P D vwCl [(qt, .inr (8, [.ref qt_w, .ref qt_isKept, .ref qt_value, .ref qt_weight, .ref qt_newTube, .ref qt_newPrice, .ref qt_newLow, .ref qt_newHigh, .ref qt_newGoods, .ref qt_rhythm, .ref qt_rhythmLong, .ref qt_slug, .int it_kinds, .int it_columns, .int it_slugs, .int it_newKinds, .int it_newColumns, .int it_newSlugs, .int it_rhythmTold, .ref qt_text, .int it_textSize, .int n4, .int it_first, .int it_length, .int it_faultOf, .int it_fault, .ref qt_of, .ref qt_buyerColumn, .ref qt_buyerKind, .ref qt_buyerCoins, .int it_buyerMany, .ref qt_tryRow, .ref qt_tryLong, .ref qt_tryFree, .int it_tryMany])), (qt_text, .inl (cI, 400, .inl ft_text))] H := hP
          refine lv_goto (tgt := 0) hx hb dX8_here_35 (by decide) ?_
          exact ih n4 _ _ _ o h hP hS (lv_sub hl [0] rfl) K
  unfold fX8_here at h
  refine lv_aload_n hx hb dX8_here_0 rfl (lv_at hl 0 rfl) ?_
  refine va_get (ci := 8) (v := .int it_at) (C := RX8) (T := TX8) (N := 35) hx hb hts hiX8 hown hK hP 0 rfl rfl 21 (by decide) fl88 (fun _ h9 => h9) rfl dX8_here_1 ?_
  refine lv_aload_n hx hb dX8_here_4 rfl (lv_at hl 0 rfl) ?_
  refine va_get (ci := 8) (v := .int it_textSize) (C := RX8) (T := TX8) (N := 35) hx hb hts hiX8 hown hK hP 0 rfl rfl 20 (by decide) fl82 (fun _ h9 => h9) rfl dX8_here_5 ?_
  refine lv_icmp_ge (tgt := 38) hx hb dX8_here_8 (by decide) (fun c5 => ?_) (fun c5 => ?_)
  · replace h := if_t c5 h
    refine lv_aload_n hx hb dX8_here_38 rfl (lv_at hl 0 rfl) ?_
    refine va_get (ci := 8) (v := .int it_at) (C := RX8) (T := TX8) (N := 35) hx hb hts hiX8 hown hK hP 0 rfl rfl 21 (by decide) fl88 (fun _ h9 => h9) rfl dX8_here_39 ?_
    refine lv_aload_n hx hb dX8_here_42 rfl (lv_at hl 0 rfl) ?_
    refine va_get (ci := 8) (v := .int it_textSize) (C := RX8) (T := TX8) (N := 35) hx hb hts hiX8 hown hK hP 0 rfl rfl 20 (by decide) fl82 (fun _ h9 => h9) rfl dX8_here_43 ?_
    refine lv_icmp_ge (tgt := 61) hx hb dX8_here_46 (by decide) (fun c6 => ?_) (fun c6 => ?_)
    · replace h := if_t c6 h
      refine lv_iconst (v := (-1)) hx hb dX8_here_61 (by decide) ?_
      simp only [Option.some.injEq, Prod.mk.injEq] at h
      obtain ⟨rfl, rfl⟩ := h
      exact hret _ _ _ _ hP hS rfl dX8_here_62
    · replace h := if_f c6 h
      refine lv_aload_n hx hb dX8_here_49 rfl (lv_at hl 0 rfl) ?_
      refine va_get (ci := 8) (v := .ref qt_text) (C := RX8) (T := TX8) (N := 35) hx hb hts hiX8 hown hK hP 0 rfl rfl 19 (by decide) fl47 (fun _ h9 => h9) rfl dX8_here_50 ?_
      refine lv_aload_n hx hb dX8_here_53 rfl (lv_at hl 0 rfl) ?_
      refine va_get (ci := 8) (v := .int it_at) (C := RX8) (T := TX8) (N := 35) hx hb hts hiX8 hown hK hP 0 rfl rfl 21 (by decide) fl88 (fun _ h9 => h9) rfl dX8_here_54 ?_
      replace h := ck_el h
      obtain ⟨hi7, h⟩ := h
      refine va_iald hx hb hK hP 1 0 rfl rfl hi7 dX8_here_57 ?_
      refine lv_goto (tgt := 62) hx hb dX8_here_58 (by decide) ?_
      refine lv_topi (fun n8 en8 => ?_)
      replace h := lt_at en8 h
      simp only [Option.some.injEq, Prod.mk.injEq] at h
      obtain ⟨rfl, rfl⟩ := h
      exact hret _ _ _ _ hP hS rfl dX8_here_62
  · replace h := if_f c5 h
    refine lv_aload_n hx hb dX8_here_11 rfl (lv_at hl 0 rfl) ?_
    refine va_get (ci := 8) (v := .ref qt_text) (C := RX8) (T := TX8) (N := 35) hx hb hts hiX8 hown hK hP 0 rfl rfl 19 (by decide) fl47 (fun _ h9 => h9) rfl dX8_here_12 ?_
    refine lv_aload_n hx hb dX8_here_15 rfl (lv_at hl 0 rfl) ?_
    refine va_get (ci := 8) (v := .int it_at) (C := RX8) (T := TX8) (N := 35) hx hb hts hiX8 hown hK hP 0 rfl rfl 21 (by decide) fl88 (fun _ h9 => h9) rfl dX8_here_16 ?_
    replace h := ck_el h
    obtain ⟨hi9, h⟩ := h
    refine va_iald hx hb hK hP 1 0 rfl rfl hi9 dX8_here_19 ?_
    refine lv_bipush (v := 32) hx hb dX8_here_20 (by decide) ?_
    refine lv_icmp_ne (tgt := 38) hx hb dX8_here_22 (by decide) (fun c10 => ?_) (fun c10 => ?_)
    · replace h := if_f c10 h
      refine lv_aload_n hx hb dX8_here_38 rfl (lv_at hl 0 rfl) ?_
      refine va_get (ci := 8) (v := .int it_at) (C := RX8) (T := TX8) (N := 35) hx hb hts hiX8 hown hK hP 0 rfl rfl 21 (by decide) fl88 (fun _ h9 => h9) rfl dX8_here_39 ?_
      refine lv_aload_n hx hb dX8_here_42 rfl (lv_at hl 0 rfl) ?_
      refine va_get (ci := 8) (v := .int it_textSize) (C := RX8) (T := TX8) (N := 35) hx hb hts hiX8 hown hK hP 0 rfl rfl 20 (by decide) fl82 (fun _ h9 => h9) rfl dX8_here_43 ?_
      refine lv_icmp_ge (tgt := 61) hx hb dX8_here_46 (by decide) (fun c11 => ?_) (fun c11 => ?_)
      · replace h := if_t c11 h
        refine lv_iconst (v := (-1)) hx hb dX8_here_61 (by decide) ?_
        simp only [Option.some.injEq, Prod.mk.injEq] at h
        obtain ⟨rfl, rfl⟩ := h
        exact hret _ _ _ _ hP hS rfl dX8_here_62
      · replace h := if_f c11 h
        refine lv_aload_n hx hb dX8_here_49 rfl (lv_at hl 0 rfl) ?_
        refine va_get (ci := 8) (v := .ref qt_text) (C := RX8) (T := TX8) (N := 35) hx hb hts hiX8 hown hK hP 0 rfl rfl 19 (by decide) fl47 (fun _ h9 => h9) rfl dX8_here_50 ?_
        refine lv_aload_n hx hb dX8_here_53 rfl (lv_at hl 0 rfl) ?_
        refine va_get (ci := 8) (v := .int it_at) (C := RX8) (T := TX8) (N := 35) hx hb hts hiX8 hown hK hP 0 rfl rfl 21 (by decide) fl88 (fun _ h9 => h9) rfl dX8_here_54 ?_
        refine va_iald hx hb hK hP 1 0 rfl rfl hi9 dX8_here_57 ?_
        refine lv_goto (tgt := 62) hx hb dX8_here_58 (by decide) ?_
        refine lv_topi (fun n12 en12 => ?_)
        replace h := lt_at en12 h
        simp only [Option.some.injEq, Prod.mk.injEq] at h
        obtain ⟨rfl, rfl⟩ := h
        exact hret _ _ _ _ hP hS rfl dX8_here_62
    · replace h := if_t c10 h
      refine lv_aload_n hx hb dX8_here_25 rfl (lv_at hl 0 rfl) ?_
      refine lv_dup hx hb dX8_here_26 rfl ?_
      refine va_get (ci := 8) (v := .int it_at) (C := RX8) (T := TX8) (N := 35) hx hb hts hiX8 hown hK hP 0 rfl rfl 21 (by decide) fl88 (fun _ h9 => h9) rfl dX8_here_27 ?_
      refine lv_iconst (v := 1) hx hb dX8_here_30 (by decide) ?_
      refine lv_iadd hx hb dX8_here_31 ?_
      refine lv_topi (fun n13 en13 => ?_)
      replace h := lt_at en13 h
      refine va_put (ci := 8) (v := .int n13) (ty := .int) (C := RX8) (T := TX8) (N := 35) hx hb hts hiX8 tyX8 tyX8_ok nmX8 hown hK hP (dF hD rfl) hS 0 rfl rfl 21 (by decide) fl88 (fun _ h9 => h9) rfl (by decide +kernel) rfl rfl (Nat.le_of_ble_eq_true rfl) dX8_here_32 (fun H locs hP _ hS => ?_)
      replace hP : va_P D vwCl [(qt, .inr (8, [.ref qt_w, .ref qt_isKept, .ref qt_value, .ref qt_weight, .ref qt_newTube, .ref qt_newPrice, .ref qt_newLow, .ref qt_newHigh, .ref qt_newGoods, .ref qt_rhythm, .ref qt_rhythmLong, .ref qt_slug, .int it_kinds, .int it_columns, .int it_slugs, .int it_newKinds, .int it_newColumns, .int it_newSlugs, .int it_rhythmTold, .ref qt_text, .int it_textSize, .int n13, .int it_first, .int it_length, .int it_faultOf, .int it_fault, .ref qt_of, .ref qt_buyerColumn, .ref qt_buyerKind, .ref qt_buyerCoins, .int it_buyerMany, .ref qt_tryRow, .ref qt_tryLong, .ref qt_tryFree, .int it_tryMany])), (qt_text, .inl (cI, 400, .inl ft_text))] H := hP
      refine lv_goto (tgt := 0) hx hb dX8_here_35 (by decide) ?_
      replace h := bd_el h
      obtain ⟨o14, ho14, h⟩ := h
      refine lp0 N n13 _ _ _ o14 ho14 hP hS (lv_sub hl [0] rfl) (fun g15 eo H locs ls hP hS hl => ?_)
      subst eo
      refine lv_aload_n hx hb dX8_here_38 rfl (lv_at hl 0 rfl) ?_
      refine va_get (ci := 8) (v := .int g15) (C := RX8) (T := TX8) (N := 35) hx hb hts hiX8 hown hK hP 0 rfl rfl 21 (by decide) fl88 (fun _ h9 => h9) rfl dX8_here_39 ?_
      refine lv_aload_n hx hb dX8_here_42 rfl (lv_at hl 0 rfl) ?_
      refine va_get (ci := 8) (v := .int it_textSize) (C := RX8) (T := TX8) (N := 35) hx hb hts hiX8 hown hK hP 0 rfl rfl 20 (by decide) fl82 (fun _ h9 => h9) rfl dX8_here_43 ?_
      refine lv_icmp_ge (tgt := 61) hx hb dX8_here_46 (by decide) (fun c16 => ?_) (fun c16 => ?_)
      · replace h := if_t c16 h
        refine lv_iconst (v := (-1)) hx hb dX8_here_61 (by decide) ?_
        simp only [Option.some.injEq, Prod.mk.injEq] at h
        obtain ⟨rfl, rfl⟩ := h
        exact hret _ _ _ _ hP hS rfl dX8_here_62
      · replace h := if_f c16 h
        refine lv_aload_n hx hb dX8_here_49 rfl (lv_at hl 0 rfl) ?_
        refine va_get (ci := 8) (v := .ref qt_text) (C := RX8) (T := TX8) (N := 35) hx hb hts hiX8 hown hK hP 0 rfl rfl 19 (by decide) fl47 (fun _ h9 => h9) rfl dX8_here_50 ?_
        refine lv_aload_n hx hb dX8_here_53 rfl (lv_at hl 0 rfl) ?_
        refine va_get (ci := 8) (v := .int g15) (C := RX8) (T := TX8) (N := 35) hx hb hts hiX8 hown hK hP 0 rfl rfl 21 (by decide) fl88 (fun _ h9 => h9) rfl dX8_here_54 ?_
        replace h := ck_el h
        obtain ⟨hi17, h⟩ := h
        refine va_iald hx hb hK hP 1 0 rfl rfl hi17 dX8_here_57 ?_
        refine lv_goto (tgt := 62) hx hb dX8_here_58 (by decide) ?_
        refine lv_topi (fun n18 en18 => ?_)
        replace h := lt_at en18 h
        simp only [Option.some.injEq, Prod.mk.injEq] at h
        obtain ⟨rfl, rfl⟩ := h
        exact hret _ _ _ _ hP hS rfl dX8_here_62
theorem hdX8_here : yX8_here.cls = RX8 ∧ yX8_here.cls ≠ "java/lang/invoke/MethodHandle" ∧ yX8_here.cls ≠ "java/lang/invoke/VarHandle" ∧ (parseMethodDescriptor yX8_here.desc).map (fun d => d.parameters.length) = some 0 := by decide +kernel

noncomputable def fX8_want (N : Nat) (it_faultOf : Int32) (it_fault : Int32) (x1 : Int32) (x2 : Int32) (x3 : Int32) : Option (Int32 × Int32 × Int32) := (if x1 = 0 then (if it_faultOf = 0 then (if x2 = 0 then some (1, x2, x3) else some (0, x2, x3)) else (if it_faultOf = 0 then some (1, it_faultOf, it_fault) else some (0, it_faultOf, it_fault))) else (if it_faultOf = 0 then some (1, it_faultOf, it_fault) else some (0, it_faultOf, it_fault)))
set_option maxHeartbeats 4000000 in
set_option maxRecDepth 100000 in
theorem ctX8_want (l : Launch) (D : va_G) (cI cZ cB cS : ClassId) (kK kV : Nat → Nat) (sz : Nat) (qt qt_w qt_isKept qt_value qt_weight qt_newTube qt_newPrice qt_newLow qt_newHigh qt_newGoods qt_rhythm qt_rhythmLong qt_slug qt_text qt_of qt_buyerColumn qt_buyerKind qt_buyerCoins qt_tryRow qt_tryLong qt_tryFree : Nat) (it_kinds : Int32) (it_columns : Int32) (it_slugs : Int32) (it_newKinds : Int32) (it_newColumns : Int32) (it_newSlugs : Int32) (it_rhythmTold : Int32) (it_textSize : Int32) (it_at : Int32) (it_first : Int32) (it_length : Int32) (it_faultOf : Int32) (it_fault : Int32) (it_buyerMany : Int32) (it_tryMany : Int32) (x1 : Int32) (x2 : Int32) (x3 : Int32) (N : Nat) (r0 : Int32) (w_it_faultOf : Int32) (w_it_fault : Int32) (h : fX8_want N it_faultOf it_fault x1 x2 x3 = some (r0, w_it_faultOf, w_it_fault)) : CtI l yX8_want wsX8_want { frames := 0, cells := 0, slots := 0, locals := 0 } D (TY cI cZ cB cS) kK kV [.ref qt, .int x1, .int x2, .int x3] [(qt, .inr (8, [.ref qt_w, .ref qt_isKept, .ref qt_value, .ref qt_weight, .ref qt_newTube, .ref qt_newPrice, .ref qt_newLow, .ref qt_newHigh, .ref qt_newGoods, .ref qt_rhythm, .ref qt_rhythmLong, .ref qt_slug, .int it_kinds, .int it_columns, .int it_slugs, .int it_newKinds, .int it_newColumns, .int it_newSlugs, .int it_rhythmTold, .ref qt_text, .int it_textSize, .int it_at, .int it_first, .int it_length, .int it_faultOf, .int it_fault, .ref qt_of, .ref qt_buyerColumn, .ref qt_buyerKind, .ref qt_buyerCoins, .int it_buyerMany, .ref qt_tryRow, .ref qt_tryLong, .ref qt_tryFree, .int it_tryMany]))] [(qt, .inr (8, [.ref qt_w, .ref qt_isKept, .ref qt_value, .ref qt_weight, .ref qt_newTube, .ref qt_newPrice, .ref qt_newLow, .ref qt_newHigh, .ref qt_newGoods, .ref qt_rhythm, .ref qt_rhythmLong, .ref qt_slug, .int it_kinds, .int it_columns, .int it_slugs, .int it_newKinds, .int it_newColumns, .int it_newSlugs, .int it_rhythmTold, .ref qt_text, .int it_textSize, .int it_at, .int it_first, .int it_length, .int w_it_faultOf, .int w_it_fault, .ref qt_of, .ref qt_buyerColumn, .ref qt_buyerKind, .ref qt_buyerCoins, .int it_buyerMany, .ref qt_tryRow, .ref qt_tryLong, .ref qt_tryFree, .int it_tryMany]))] sz r0 := by
  refine mkI (cc := cX8_want) (maxL := 4) (rt := .boolean) (own := RX8) (by decide) rfl rfl (Nat.le_of_ble_eq_true rfl) ?_
  intro p e s m args below meth c A Z ls hx hb hml hown hts hK hN hX hP hD hA hS hret hl
  have hl : lv_has ls 4 [(0, .ref qt), (1, .int x1), (2, .int x2), (3, .int x3)] := hl
  have fl91 : (Cond.fieldLink RX8 91 "SoupWallModel" "faultOf" "I").before args s = true := hts _ (List.mem_of_getElem? (l := wsX8_want) (i := 1) rfl)
  have hiX8 : ∀ w ∈ wsX80, w ∈ wsX8_want := fun w h => List.mem_cons_of_mem _ (List.mem_append_right _ h)
  have fl50 : (Cond.fieldLink RX8 50 "SoupWallModel" "fault" "I").before args s = true := hts _ (List.mem_of_getElem? (l := wsX8_want) (i := 2) rfl)
  unfold fX8_want at h
  refine lv_iload_n hx hb dX8_want_0 rfl (lv_at hl 1 rfl) ?_
  refine lv_if_ne (tgt := 21) hx hb dX8_want_1 (by decide) (fun c1 => ?_) (fun c1 => ?_)
  · replace h := if_f c1 h
    refine lv_aload_n hx hb dX8_want_21 rfl (lv_at hl 0 rfl) ?_
    refine va_get (ci := 8) (v := .int it_faultOf) (C := RX8) (T := TX8) (N := 35) hx hb hts hiX8 hown hK hP 0 rfl rfl 24 (by decide) fl91 (fun _ h9 => h9) rfl dX8_want_22 ?_
    refine lv_if_ne (tgt := 32) hx hb dX8_want_25 (by decide) (fun c2 => ?_) (fun c2 => ?_)
    · replace h := if_f c2 h
      refine lv_iconst (v := 0) hx hb dX8_want_32 (by decide) ?_
      simp only [Option.some.injEq, Prod.mk.injEq] at h
      obtain ⟨rfl, rfl, rfl⟩ := h
      exact hret _ _ _ _ hP hS rfl dX8_want_33
    · replace h := if_t c2 h
      refine lv_iconst (v := 1) hx hb dX8_want_28 (by decide) ?_
      refine lv_goto (tgt := 33) hx hb dX8_want_29 (by decide) ?_
      simp only [Option.some.injEq, Prod.mk.injEq] at h
      obtain ⟨rfl, rfl, rfl⟩ := h
      exact hret _ _ _ _ hP hS rfl dX8_want_33
  · replace h := if_t c1 h
    refine lv_aload_n hx hb dX8_want_4 rfl (lv_at hl 0 rfl) ?_
    refine va_get (ci := 8) (v := .int it_faultOf) (C := RX8) (T := TX8) (N := 35) hx hb hts hiX8 hown hK hP 0 rfl rfl 24 (by decide) fl91 (fun _ h9 => h9) rfl dX8_want_5 ?_
    refine lv_if_ne (tgt := 21) hx hb dX8_want_8 (by decide) (fun c3 => ?_) (fun c3 => ?_)
    · replace h := if_f c3 h
      refine lv_aload_n hx hb dX8_want_21 rfl (lv_at hl 0 rfl) ?_
      refine va_get (ci := 8) (v := .int it_faultOf) (C := RX8) (T := TX8) (N := 35) hx hb hts hiX8 hown hK hP 0 rfl rfl 24 (by decide) fl91 (fun _ h9 => h9) rfl dX8_want_22 ?_
      refine lv_if_ne (tgt := 32) hx hb dX8_want_25 (by decide) (fun c4 => ?_) (fun c4 => ?_)
      · replace h := if_f c4 h
        refine lv_iconst (v := 0) hx hb dX8_want_32 (by decide) ?_
        simp only [Option.some.injEq, Prod.mk.injEq] at h
        obtain ⟨rfl, rfl, rfl⟩ := h
        exact hret _ _ _ _ hP hS rfl dX8_want_33
      · replace h := if_t c4 h
        refine lv_iconst (v := 1) hx hb dX8_want_28 (by decide) ?_
        refine lv_goto (tgt := 33) hx hb dX8_want_29 (by decide) ?_
        simp only [Option.some.injEq, Prod.mk.injEq] at h
        obtain ⟨rfl, rfl, rfl⟩ := h
        exact hret _ _ _ _ hP hS rfl dX8_want_33
    · replace h := if_t c3 h
      refine lv_aload_n hx hb dX8_want_11 rfl (lv_at hl 0 rfl) ?_
      refine lv_iload_n hx hb dX8_want_12 rfl (lv_at hl 2 rfl) ?_
      refine va_put (ci := 8) (v := .int x2) (ty := .int) (C := RX8) (T := TX8) (N := 35) hx hb hts hiX8 tyX8 tyX8_ok nmX8 hown hK hP (dF hD rfl) hS 0 rfl rfl 24 (by decide) fl91 (fun _ h9 => h9) rfl (by decide +kernel) rfl rfl (Nat.le_of_ble_eq_true rfl) dX8_want_13 (fun H locs hP _ hS => ?_)
      replace hP : va_P D vwCl [(qt, .inr (8, [.ref qt_w, .ref qt_isKept, .ref qt_value, .ref qt_weight, .ref qt_newTube, .ref qt_newPrice, .ref qt_newLow, .ref qt_newHigh, .ref qt_newGoods, .ref qt_rhythm, .ref qt_rhythmLong, .ref qt_slug, .int it_kinds, .int it_columns, .int it_slugs, .int it_newKinds, .int it_newColumns, .int it_newSlugs, .int it_rhythmTold, .ref qt_text, .int it_textSize, .int it_at, .int it_first, .int it_length, .int x2, .int it_fault, .ref qt_of, .ref qt_buyerColumn, .ref qt_buyerKind, .ref qt_buyerCoins, .int it_buyerMany, .ref qt_tryRow, .ref qt_tryLong, .ref qt_tryFree, .int it_tryMany]))] H := hP
      refine lv_aload_n hx hb dX8_want_16 rfl (lv_at hl 0 rfl) ?_
      refine lv_iload_n hx hb dX8_want_17 rfl (lv_at hl 3 rfl) ?_
      refine va_put (ci := 8) (v := .int x3) (ty := .int) (C := RX8) (T := TX8) (N := 35) hx hb hts hiX8 tyX8 tyX8_ok nmX8 hown hK hP (dF hD rfl) hS 0 rfl rfl 25 (by decide) fl50 (fun _ h9 => h9) rfl (by decide +kernel) rfl rfl (Nat.le_of_ble_eq_true rfl) dX8_want_18 (fun H locs hP _ hS => ?_)
      replace hP : va_P D vwCl [(qt, .inr (8, [.ref qt_w, .ref qt_isKept, .ref qt_value, .ref qt_weight, .ref qt_newTube, .ref qt_newPrice, .ref qt_newLow, .ref qt_newHigh, .ref qt_newGoods, .ref qt_rhythm, .ref qt_rhythmLong, .ref qt_slug, .int it_kinds, .int it_columns, .int it_slugs, .int it_newKinds, .int it_newColumns, .int it_newSlugs, .int it_rhythmTold, .ref qt_text, .int it_textSize, .int it_at, .int it_first, .int it_length, .int x2, .int x3, .ref qt_of, .ref qt_buyerColumn, .ref qt_buyerKind, .ref qt_buyerCoins, .int it_buyerMany, .ref qt_tryRow, .ref qt_tryLong, .ref qt_tryFree, .int it_tryMany]))] H := hP
      refine lv_aload_n hx hb dX8_want_21 rfl (lv_at hl 0 rfl) ?_
      refine va_get (ci := 8) (v := .int x2) (C := RX8) (T := TX8) (N := 35) hx hb hts hiX8 hown hK hP 0 rfl rfl 24 (by decide) fl91 (fun _ h9 => h9) rfl dX8_want_22 ?_
      refine lv_if_ne (tgt := 32) hx hb dX8_want_25 (by decide) (fun c5 => ?_) (fun c5 => ?_)
      · replace h := if_f c5 h
        refine lv_iconst (v := 0) hx hb dX8_want_32 (by decide) ?_
        simp only [Option.some.injEq, Prod.mk.injEq] at h
        obtain ⟨rfl, rfl, rfl⟩ := h
        exact hret _ _ _ _ hP hS rfl dX8_want_33
      · replace h := if_t c5 h
        refine lv_iconst (v := 1) hx hb dX8_want_28 (by decide) ?_
        refine lv_goto (tgt := 33) hx hb dX8_want_29 (by decide) ?_
        simp only [Option.some.injEq, Prod.mk.injEq] at h
        obtain ⟨rfl, rfl, rfl⟩ := h
        exact hret _ _ _ _ hP hS rfl dX8_want_33
theorem hdX8_want : yX8_want.cls = RX8 ∧ yX8_want.cls ≠ "java/lang/invoke/MethodHandle" ∧ yX8_want.cls ≠ "java/lang/invoke/VarHandle" ∧ (parseMethodDescriptor yX8_want.desc).map (fun d => d.parameters.length) = some 3 := by decide +kernel

noncomputable def fX8_takeWord_L13 (N : Nat) : Nat → Int32 → Int32 → (Nat → Int32) → Option (Int32)
  | 0, _, _, _ => none
  | k + 1, it_textSize, it_at, ft_text => (if it_textSize ≤ it_at then some it_at else ck it_at 400 (bd (fX8_in N (Int32.toInt64 (ft_text (Int32.toNatClampNeg it_at))) 97 122) fun r3 => (if r3 = 0 then some it_at else lt (it_at + 1) fun n6 => fX8_takeWord_L13 N k it_textSize n6 ft_text)))
theorem fX8_takeWord_L13_s (N : Nat) (k : Nat) (it_textSize : Int32) (it_at : Int32) (ft_text : Nat → Int32) : fX8_takeWord_L13 N (k + 1) it_textSize it_at ft_text = ((if it_textSize ≤ it_at then some it_at else ck it_at 400 (bd (fX8_in N (Int32.toInt64 (ft_text (Int32.toNatClampNeg it_at))) 97 122) fun r3 => (if r3 = 0 then some it_at else lt (it_at + 1) fun n6 => fX8_takeWord_L13 N k it_textSize n6 ft_text)))) := rfl
noncomputable def fX8_takeWord (N : Nat) (it_textSize : Int32) (it_at : Int32) (it_first : Int32) (it_length : Int32) (ft_text : Nat → Int32) : Option (Int32 × Int32 × Int32) := bd (fX8_here N it_textSize it_at ft_text) fun (r7, g8) => bd (fX8_takeWord_L13 N N it_textSize g8 ft_text) fun g11 => lt (g11 - g8) fun n12 => some (g11, g8, n12)
set_option maxHeartbeats 4000000 in
set_option maxRecDepth 100000 in
theorem ctX8_takeWord (l : Launch) (D : va_G) (cI cZ cB cS : ClassId) (kK kV : Nat → Nat) (sz : Nat) (qt qt_w qt_isKept qt_value qt_weight qt_newTube qt_newPrice qt_newLow qt_newHigh qt_newGoods qt_rhythm qt_rhythmLong qt_slug qt_text qt_of qt_buyerColumn qt_buyerKind qt_buyerCoins qt_tryRow qt_tryLong qt_tryFree : Nat) (it_kinds : Int32) (it_columns : Int32) (it_slugs : Int32) (it_newKinds : Int32) (it_newColumns : Int32) (it_newSlugs : Int32) (it_rhythmTold : Int32) (it_textSize : Int32) (it_at : Int32) (it_first : Int32) (it_length : Int32) (it_faultOf : Int32) (it_fault : Int32) (it_buyerMany : Int32) (it_tryMany : Int32) (ft_text : Nat → Int32)  (N : Nat) (w_it_at : Int32) (w_it_first : Int32) (w_it_length : Int32) (h : fX8_takeWord N it_textSize it_at it_first it_length ft_text = some (w_it_at, w_it_first, w_it_length)) : CtV l yX8_takeWord wsX8_takeWord { frames := 1, cells := 0, slots := 0, locals := 25 } D (TY cI cZ cB cS) kK kV [.ref qt] [(qt, .inr (8, [.ref qt_w, .ref qt_isKept, .ref qt_value, .ref qt_weight, .ref qt_newTube, .ref qt_newPrice, .ref qt_newLow, .ref qt_newHigh, .ref qt_newGoods, .ref qt_rhythm, .ref qt_rhythmLong, .ref qt_slug, .int it_kinds, .int it_columns, .int it_slugs, .int it_newKinds, .int it_newColumns, .int it_newSlugs, .int it_rhythmTold, .ref qt_text, .int it_textSize, .int it_at, .int it_first, .int it_length, .int it_faultOf, .int it_fault, .ref qt_of, .ref qt_buyerColumn, .ref qt_buyerKind, .ref qt_buyerCoins, .int it_buyerMany, .ref qt_tryRow, .ref qt_tryLong, .ref qt_tryFree, .int it_tryMany])), (qt_text, .inl (cI, 400, .inl ft_text))] [(qt, .inr (8, [.ref qt_w, .ref qt_isKept, .ref qt_value, .ref qt_weight, .ref qt_newTube, .ref qt_newPrice, .ref qt_newLow, .ref qt_newHigh, .ref qt_newGoods, .ref qt_rhythm, .ref qt_rhythmLong, .ref qt_slug, .int it_kinds, .int it_columns, .int it_slugs, .int it_newKinds, .int it_newColumns, .int it_newSlugs, .int it_rhythmTold, .ref qt_text, .int it_textSize, .int w_it_at, .int w_it_first, .int w_it_length, .int it_faultOf, .int it_fault, .ref qt_of, .ref qt_buyerColumn, .ref qt_buyerKind, .ref qt_buyerCoins, .int it_buyerMany, .ref qt_tryRow, .ref qt_tryLong, .ref qt_tryFree, .int it_tryMany])), (qt_text, .inl (cI, 400, .inl ft_text))] sz := by
  refine mkV (cc := cX8_takeWord) (maxL := 2) (own := RX8) (by decide) rfl rfl (Nat.le_of_ble_eq_true rfl) ?_
  intro p e s m args below meth c A Z ls hx hb hml hown hts hK hN hX hP hD hA hS hret hl
  have hl : lv_has ls 2 [(0, .ref qt)] := hl
  have fl88 : (Cond.fieldLink RX8 88 "SoupWallModel" "at" "I").before args s = true := hts _ (List.mem_of_getElem? (l := wsX8_takeWord) (i := 1) rfl)
  have hiX8 : ∀ w ∈ wsX80, w ∈ wsX8_takeWord := fun w h => List.mem_cons_of_mem _ (List.mem_append_right _ h)
  have fl82 : (Cond.fieldLink RX8 82 "SoupWallModel" "textSize" "I").before args s = true := hts _ (List.mem_of_getElem? (l := wsX8_takeWord) (i := 3) rfl)
  have fl47 : (Cond.fieldLink RX8 47 "SoupWallModel" "text" "[I").before args s = true := hts _ (List.mem_of_getElem? (l := wsX8_takeWord) (i := 4) rfl)
  have cn101 : (Cond.constantLong RX8 101 (97)).before args s = true := hts _ (List.mem_of_getElem? (l := wsX8_takeWord) (i := 5) rfl)
  have cn103 : (Cond.constantLong RX8 103 (122)).before args s = true := hts _ (List.mem_of_getElem? (l := wsX8_takeWord) (i := 6) rfl)
  have fl98 : (Cond.fieldLink RX8 98 "SoupWallModel" "first" "I").before args s = true := hts _ (List.mem_of_getElem? (l := wsX8_takeWord) (i := 2) rfl)
  have fl105 : (Cond.fieldLink RX8 105 "SoupWallModel" "length" "I").before args s = true := hts _ (List.mem_of_getElem? (l := wsX8_takeWord) (i := 7) rfl)
  have lp13 : ∀ (k : Nat)  (it_at : Int32) (it_first : Int32) (it_length : Int32) (H : Heap) (locs : List Loc) (ls : Array Slot) (o : Int32), fX8_takeWord_L13 N k it_textSize it_at ft_text = some o → va_P D vwCl [(qt, .inr (8, [.ref qt_w, .ref qt_isKept, .ref qt_value, .ref qt_weight, .ref qt_newTube, .ref qt_newPrice, .ref qt_newLow, .ref qt_newHigh, .ref qt_newGoods, .ref qt_rhythm, .ref qt_rhythmLong, .ref qt_slug, .int it_kinds, .int it_columns, .int it_slugs, .int it_newKinds, .int it_newColumns, .int it_newSlugs, .int it_rhythmTold, .ref qt_text, .int it_textSize, .int it_at, .int it_first, .int it_length, .int it_faultOf, .int it_fault, .ref qt_of, .ref qt_buyerColumn, .ref qt_buyerKind, .ref qt_buyerCoins, .int it_buyerMany, .ref qt_tryRow, .ref qt_tryLong, .ref qt_tryFree, .int it_tryMany])), (qt_text, .inl (cI, 400, .inl ft_text))] H → va_S A s.heap H locs → lv_has ls 2 [(0, .ref qt)] → (∀ (e_it_at : Int32), e_it_at = o → ∀ (H : Heap) (locs : List Loc) (ls : Array Slot), va_P D vwCl [(qt, .inr (8, [.ref qt_w, .ref qt_isKept, .ref qt_value, .ref qt_weight, .ref qt_newTube, .ref qt_newPrice, .ref qt_newLow, .ref qt_newHigh, .ref qt_newGoods, .ref qt_rhythm, .ref qt_rhythmLong, .ref qt_slug, .int it_kinds, .int it_columns, .int it_slugs, .int it_newKinds, .int it_newColumns, .int it_newSlugs, .int it_rhythmTold, .ref qt_text, .int it_textSize, .int e_it_at, .int it_first, .int it_length, .int it_faultOf, .int it_fault, .ref qt_of, .ref qt_buyerColumn, .ref qt_buyerKind, .ref qt_buyerCoins, .int it_buyerMany, .ref qt_tryRow, .ref qt_tryLong, .ref qt_tryFree, .int it_tryMany])), (qt_text, .inl (cI, 400, .inl ft_text))] H → va_S A s.heap H locs → lv_has ls 2 [(0, .ref qt)] → W p l e ({ frames := 1, cells := 0, slots := 0, locals := 25 } : Room) s m args below meth c H locs 0 0 Z (F0 m 59 ls [])) → W p l e ({ frames := 1, cells := 0, slots := 0, locals := 25 } : Room) s m args below meth c H locs 0 0 Z (F0 m 13 ls []) := by
    intro k
    induction k with
    | zero =>
      intro it_at it_first it_length H locs ls o h
      exact nomatch (show (none : Option (Int32)) = some o from h)
    | succ k ih =>
      intro it_at it_first it_length H locs ls o h hP hS hl K
      rw [fX8_takeWord_L13_s] at h
      refine lv_aload_n hx hb dX8_takeWord_13 rfl (lv_at hl 0 rfl) ?_
      refine va_get (ci := 8) (v := .int it_at) (C := RX8) (T := TX8) (N := 35) hx hb hts hiX8 hown hK hP 0 rfl rfl 21 (by decide) fl88 (fun _ h9 => h9) rfl dX8_takeWord_14 ?_
      refine lv_aload_n hx hb dX8_takeWord_17 rfl (lv_at hl 0 rfl) ?_
      refine va_get (ci := 8) (v := .int it_textSize) (C := RX8) (T := TX8) (N := 35) hx hb hts hiX8 hown hK hP 0 rfl rfl 20 (by decide) fl82 (fun _ h9 => h9) rfl dX8_takeWord_18 ?_
      refine lv_icmp_ge (tgt := 59) hx hb dX8_takeWord_21 (by decide) (fun c1 => ?_) (fun c1 => ?_)
      · replace h := if_t c1 h
        exact K it_at (Option.some.inj h) _ _ _ hP hS (lv_sub hl [0] rfl)
      · replace h := if_f c1 h
        refine lv_aload_n hx hb dX8_takeWord_24 rfl (lv_at hl 0 rfl) ?_
        refine va_get (ci := 8) (v := .ref qt_text) (C := RX8) (T := TX8) (N := 35) hx hb hts hiX8 hown hK hP 0 rfl rfl 19 (by decide) fl47 (fun _ h9 => h9) rfl dX8_takeWord_25 ?_
        refine lv_aload_n hx hb dX8_takeWord_28 rfl (lv_at hl 0 rfl) ?_
        refine va_get (ci := 8) (v := .int it_at) (C := RX8) (T := TX8) (N := 35) hx hb hts hiX8 hown hK hP 0 rfl rfl 21 (by decide) fl88 (fun _ h9 => h9) rfl dX8_takeWord_29 ?_
        replace h := ck_el h
        obtain ⟨hi2, h⟩ := h
        refine va_iald hx hb hK hP 1 0 rfl rfl hi2 dX8_takeWord_32 ?_
        refine lv_i2l (v := Int32.toInt64 (ft_text (Int32.toNatClampNeg it_at))) hx hb dX8_takeWord_33 rfl ?_
        refine lv_ldc2 (v := 97) hx hb hown cn101 dX8_takeWord_34 ?_
        refine lv_ldc2 (v := 122) hx hb hown cn103 dX8_takeWord_37 ?_
        replace h := bd_el h
        obtain ⟨r3, hc4, h⟩ := h
        refine callSI (rest := []) ⟨hx, hb, hml, hown, hts⟩ (ctX8_in l D cI cZ cB cS kK kV _ (Int32.toInt64 (ft_text (Int32.toNatClampNeg it_at))) 97 122 N r3 hc4) (va_cwS 3 hts gX8_takeWord_X8_in rfl rfl rfl hdX8_in ⟨Nat.le_of_ble_eq_true rfl, Nat.le_of_ble_eq_true rfl⟩) hK hN hX hP (dF hD rfl) hS hA [] mcN (by decide +kernel) [(qt, .inr (8, [.ref qt_w, .ref qt_isKept, .ref qt_value, .ref qt_weight, .ref qt_newTube, .ref qt_newPrice, .ref qt_newLow, .ref qt_newHigh, .ref qt_newGoods, .ref qt_rhythm, .ref qt_rhythmLong, .ref qt_slug, .int it_kinds, .int it_columns, .int it_slugs, .int it_newKinds, .int it_newColumns, .int it_newSlugs, .int it_rhythmTold, .ref qt_text, .int it_textSize, .int it_at, .int it_first, .int it_length, .int it_faultOf, .int it_fault, .ref qt_of, .ref qt_buyerColumn, .ref qt_buyerKind, .ref qt_buyerCoins, .int it_buyerMany, .ref qt_tryRow, .ref qt_tryLong, .ref qt_tryFree, .int it_tryMany])), (qt_text, .inl (cI, 400, .inl ft_text))] [0, 1] mcN ((mcC rfl (mcC rfl mcN)).trans (mcC rfl (mcC rfl mcN)).symm) 2 rfl (by decide +kernel) rfl hl.1 rfl (Nat.le_of_ble_eq_true rfl) ⟨Nat.zero_le _, Nat.zero_le _⟩ dX8_takeWord_40 (fun H locs hP hS => ?_)
        refine lv_if_eq (tgt := 59) hx hb dX8_takeWord_43 (by decide) (fun c5 => ?_) (fun c5 => ?_)
        · replace h := if_t c5 h
          exact K it_at (Option.some.inj h) _ _ _ hP hS (lv_sub hl [0] rfl)
        · replace h := if_f c5 h
          refine lv_aload_n hx hb dX8_takeWord_46 rfl (lv_at hl 0 rfl) ?_
          refine lv_dup hx hb dX8_takeWord_47 rfl ?_
          refine va_get (ci := 8) (v := .int it_at) (C := RX8) (T := TX8) (N := 35) hx hb hts hiX8 hown hK hP 0 rfl rfl 21 (by decide) fl88 (fun _ h9 => h9) rfl dX8_takeWord_48 ?_
          refine lv_iconst (v := 1) hx hb dX8_takeWord_51 (by decide) ?_
          refine lv_iadd hx hb dX8_takeWord_52 ?_
          refine lv_topi (fun n6 en6 => ?_)
          replace h := lt_at en6 h
          refine va_put (ci := 8) (v := .int n6) (ty := .int) (C := RX8) (T := TX8) (N := 35) hx hb hts hiX8 tyX8 tyX8_ok nmX8 hown hK hP (dF hD rfl) hS 0 rfl rfl 21 (by decide) fl88 (fun _ h9 => h9) rfl (by decide +kernel) rfl rfl (Nat.le_of_ble_eq_true rfl) dX8_takeWord_53 (fun H locs hP _ hS => ?_)
          replace hP : va_P D vwCl [(qt, .inr (8, [.ref qt_w, .ref qt_isKept, .ref qt_value, .ref qt_weight, .ref qt_newTube, .ref qt_newPrice, .ref qt_newLow, .ref qt_newHigh, .ref qt_newGoods, .ref qt_rhythm, .ref qt_rhythmLong, .ref qt_slug, .int it_kinds, .int it_columns, .int it_slugs, .int it_newKinds, .int it_newColumns, .int it_newSlugs, .int it_rhythmTold, .ref qt_text, .int it_textSize, .int n6, .int it_first, .int it_length, .int it_faultOf, .int it_fault, .ref qt_of, .ref qt_buyerColumn, .ref qt_buyerKind, .ref qt_buyerCoins, .int it_buyerMany, .ref qt_tryRow, .ref qt_tryLong, .ref qt_tryFree, .int it_tryMany])), (qt_text, .inl (cI, 400, .inl ft_text))] H := hP
          refine lv_goto (tgt := 13) hx hb dX8_takeWord_56 (by decide) ?_
          exact ih n6 it_first it_length _ _ _ o h hP hS (lv_sub hl [0] rfl) K
  unfold fX8_takeWord at h
  refine lv_aload_n hx hb dX8_takeWord_0 rfl (lv_at hl 0 rfl) ?_
  replace h := bd_el h
  obtain ⟨⟨r7, g8⟩, hc9, h⟩ := h
  refine callVI (rest := []) ⟨hx, hb, hml, hown, hts⟩ (ctX8_here l D cI cZ cB cS kK kV _ qt qt_w qt_isKept qt_value qt_weight qt_newTube qt_newPrice qt_newLow qt_newHigh qt_newGoods qt_rhythm qt_rhythmLong qt_slug qt_text qt_of qt_buyerColumn qt_buyerKind qt_buyerCoins qt_tryRow qt_tryLong qt_tryFree it_kinds it_columns it_slugs it_newKinds it_newColumns it_newSlugs it_rhythmTold it_textSize it_at it_first it_length it_faultOf it_fault it_buyerMany it_tryMany ft_text N r7 g8 hc9) (cwV 0 hts gX8_takeWord_X8_here rfl rfl rfl hdX8_here ⟨Nat.le_of_ble_eq_true rfl, Nat.le_of_ble_eq_true rfl⟩) hK hN hX hP (dF hD rfl) hS hA [0, 1] (mcC rfl (mcC rfl mcN)) (by decide +kernel) [(qt, .inr (8, [.ref qt_w, .ref qt_isKept, .ref qt_value, .ref qt_weight, .ref qt_newTube, .ref qt_newPrice, .ref qt_newLow, .ref qt_newHigh, .ref qt_newGoods, .ref qt_rhythm, .ref qt_rhythmLong, .ref qt_slug, .int it_kinds, .int it_columns, .int it_slugs, .int it_newKinds, .int it_newColumns, .int it_newSlugs, .int it_rhythmTold, .ref qt_text, .int it_textSize, .int g8, .int it_first, .int it_length, .int it_faultOf, .int it_fault, .ref qt_of, .ref qt_buyerColumn, .ref qt_buyerKind, .ref qt_buyerCoins, .int it_buyerMany, .ref qt_tryRow, .ref qt_tryLong, .ref qt_tryFree, .int it_tryMany])), (qt_text, .inl (cI, 400, .inl ft_text))] [] (mcC rfl (mcC rfl mcN)) (mcN.trans mcN.symm) 2 rfl (by decide +kernel) (va_recv hK hP (ci := 8) (q0 := 0) rfl rfl) rfl hl.1 rfl (Nat.le_of_ble_eq_true rfl) ⟨Nat.zero_le _, Nat.zero_le _⟩ dX8_takeWord_1 (fun H locs hP hS => ?_)
  refine lv_istore_n (lv' := [(1, .int r7), (0, .ref qt)]) hx hb dX8_takeWord_4 rfl hl (by decide) rfl (fun ls hl => ?_)
  refine lv_aload_n hx hb dX8_takeWord_5 rfl (lv_at hl 1 rfl) ?_
  refine lv_aload_n hx hb dX8_takeWord_6 rfl (lv_at hl 1 rfl) ?_
  refine va_get (ci := 8) (v := .int g8) (C := RX8) (T := TX8) (N := 35) hx hb hts hiX8 hown hK hP 0 rfl rfl 21 (by decide) fl88 (fun _ h9 => h9) rfl dX8_takeWord_7 ?_
  refine va_put (ci := 8) (v := .int g8) (ty := .int) (C := RX8) (T := TX8) (N := 35) hx hb hts hiX8 tyX8 tyX8_ok nmX8 hown hK hP (dF hD rfl) hS 0 rfl rfl 22 (by decide) fl98 (fun _ h9 => h9) rfl (by decide +kernel) rfl rfl (Nat.le_of_ble_eq_true rfl) dX8_takeWord_10 (fun H locs hP _ hS => ?_)
  replace hP : va_P D vwCl [(qt, .inr (8, [.ref qt_w, .ref qt_isKept, .ref qt_value, .ref qt_weight, .ref qt_newTube, .ref qt_newPrice, .ref qt_newLow, .ref qt_newHigh, .ref qt_newGoods, .ref qt_rhythm, .ref qt_rhythmLong, .ref qt_slug, .int it_kinds, .int it_columns, .int it_slugs, .int it_newKinds, .int it_newColumns, .int it_newSlugs, .int it_rhythmTold, .ref qt_text, .int it_textSize, .int g8, .int g8, .int it_length, .int it_faultOf, .int it_fault, .ref qt_of, .ref qt_buyerColumn, .ref qt_buyerKind, .ref qt_buyerCoins, .int it_buyerMany, .ref qt_tryRow, .ref qt_tryLong, .ref qt_tryFree, .int it_tryMany])), (qt_text, .inl (cI, 400, .inl ft_text))] H := hP
  replace h := bd_el h
  obtain ⟨o10, ho10, h⟩ := h
  refine lp13 N g8 g8 it_length _ _ _ o10 ho10 hP hS (lv_sub hl [1] rfl) (fun g11 eo H locs ls hP hS hl => ?_)
  subst eo
  refine lv_aload_n hx hb dX8_takeWord_59 rfl (lv_at hl 0 rfl) ?_
  refine lv_aload_n hx hb dX8_takeWord_60 rfl (lv_at hl 0 rfl) ?_
  refine va_get (ci := 8) (v := .int g11) (C := RX8) (T := TX8) (N := 35) hx hb hts hiX8 hown hK hP 0 rfl rfl 21 (by decide) fl88 (fun _ h9 => h9) rfl dX8_takeWord_61 ?_
  refine lv_aload_n hx hb dX8_takeWord_64 rfl (lv_at hl 0 rfl) ?_
  refine va_get (ci := 8) (v := .int g8) (C := RX8) (T := TX8) (N := 35) hx hb hts hiX8 hown hK hP 0 rfl rfl 22 (by decide) fl98 (fun _ h9 => h9) rfl dX8_takeWord_65 ?_
  refine lv_isub hx hb dX8_takeWord_68 ?_
  refine lv_topi (fun n12 en12 => ?_)
  replace h := lt_at en12 h
  refine va_put (ci := 8) (v := .int n12) (ty := .int) (C := RX8) (T := TX8) (N := 35) hx hb hts hiX8 tyX8 tyX8_ok nmX8 hown hK hP (dF hD rfl) hS 0 rfl rfl 23 (by decide) fl105 (fun _ h9 => h9) rfl (by decide +kernel) rfl rfl (Nat.le_of_ble_eq_true rfl) dX8_takeWord_69 (fun H locs hP _ hS => ?_)
  replace hP : va_P D vwCl [(qt, .inr (8, [.ref qt_w, .ref qt_isKept, .ref qt_value, .ref qt_weight, .ref qt_newTube, .ref qt_newPrice, .ref qt_newLow, .ref qt_newHigh, .ref qt_newGoods, .ref qt_rhythm, .ref qt_rhythmLong, .ref qt_slug, .int it_kinds, .int it_columns, .int it_slugs, .int it_newKinds, .int it_newColumns, .int it_newSlugs, .int it_rhythmTold, .ref qt_text, .int it_textSize, .int g11, .int g8, .int n12, .int it_faultOf, .int it_fault, .ref qt_of, .ref qt_buyerColumn, .ref qt_buyerKind, .ref qt_buyerCoins, .int it_buyerMany, .ref qt_tryRow, .ref qt_tryLong, .ref qt_tryFree, .int it_tryMany])), (qt_text, .inl (cI, 400, .inl ft_text))] H := hP
  simp only [Option.some.injEq, Prod.mk.injEq] at h
  obtain ⟨rfl, rfl, rfl⟩ := h
  exact hret _ _ _ _ hP hS dX8_takeWord_72
theorem hdX8_takeWord : yX8_takeWord.cls = RX8 ∧ yX8_takeWord.cls ≠ "java/lang/invoke/MethodHandle" ∧ yX8_takeWord.cls ≠ "java/lang/invoke/VarHandle" ∧ (parseMethodDescriptor yX8_takeWord.desc).map (fun d => d.parameters.length) = some 0 := by decide +kernel

noncomputable def fX8_isWord_L18 (N : Nat) : Nat → Int32 → Int32 → Int32 → Int32 → Int32 → Int32 → Int32 → Int32 → Int32 → Int32 → (Nat → Int32) → Option (Int32)
  | 0, _, _, _, _, _, _, _, _, _, _, _ => none
  | k + 1, x1, x2, x3, x4, x5, x6, x7, x8, x9, it_first, ft_text => (if x1 ≤ x9 then some x8 else (if x8 = 0 then some x8 else ck (it_first + x9) 400 ((if x9 = 0 then (if (ft_text (Int32.toNatClampNeg (it_first + x9))) = x2 then lt (x9 + 1) fun n26 => fX8_isWord_L18 N k x1 x2 x3 x4 x5 x6 x7 1 n26 it_first ft_text else lt (x9 + 1) fun n25 => fX8_isWord_L18 N k x1 x2 x3 x4 x5 x6 x7 0 n25 it_first ft_text) else (if x9 = 1 then (if (ft_text (Int32.toNatClampNeg (it_first + x9))) = x3 then lt (x9 + 1) fun n23 => fX8_isWord_L18 N k x1 x2 x3 x4 x5 x6 x7 1 n23 it_first ft_text else lt (x9 + 1) fun n22 => fX8_isWord_L18 N k x1 x2 x3 x4 x5 x6 x7 0 n22 it_first ft_text) else (if x9 = 2 then (if (ft_text (Int32.toNatClampNeg (it_first + x9))) = x4 then lt (x9 + 1) fun n20 => fX8_isWord_L18 N k x1 x2 x3 x4 x5 x6 x7 1 n20 it_first ft_text else lt (x9 + 1) fun n19 => fX8_isWord_L18 N k x1 x2 x3 x4 x5 x6 x7 0 n19 it_first ft_text) else (if x9 = 3 then (if (ft_text (Int32.toNatClampNeg (it_first + x9))) = x5 then lt (x9 + 1) fun n17 => fX8_isWord_L18 N k x1 x2 x3 x4 x5 x6 x7 1 n17 it_first ft_text else lt (x9 + 1) fun n16 => fX8_isWord_L18 N k x1 x2 x3 x4 x5 x6 x7 0 n16 it_first ft_text) else (if x9 = 4 then (if (ft_text (Int32.toNatClampNeg (it_first + x9))) = x6 then lt (x9 + 1) fun n14 => fX8_isWord_L18 N k x1 x2 x3 x4 x5 x6 x7 1 n14 it_first ft_text else lt (x9 + 1) fun n13 => fX8_isWord_L18 N k x1 x2 x3 x4 x5 x6 x7 0 n13 it_first ft_text) else (if (ft_text (Int32.toNatClampNeg (it_first + x9))) = x7 then lt (x9 + 1) fun n11 => fX8_isWord_L18 N k x1 x2 x3 x4 x5 x6 x7 1 n11 it_first ft_text else lt (x9 + 1) fun n10 => fX8_isWord_L18 N k x1 x2 x3 x4 x5 x6 x7 0 n10 it_first ft_text)))))))))
theorem fX8_isWord_L18_s (N : Nat) (k : Nat) (x1 : Int32) (x2 : Int32) (x3 : Int32) (x4 : Int32) (x5 : Int32) (x6 : Int32) (x7 : Int32) (x8 : Int32) (x9 : Int32) (it_first : Int32) (ft_text : Nat → Int32) : fX8_isWord_L18 N (k + 1) x1 x2 x3 x4 x5 x6 x7 x8 x9 it_first ft_text = ((if x1 ≤ x9 then some x8 else (if x8 = 0 then some x8 else ck (it_first + x9) 400 ((if x9 = 0 then (if (ft_text (Int32.toNatClampNeg (it_first + x9))) = x2 then lt (x9 + 1) fun n26 => fX8_isWord_L18 N k x1 x2 x3 x4 x5 x6 x7 1 n26 it_first ft_text else lt (x9 + 1) fun n25 => fX8_isWord_L18 N k x1 x2 x3 x4 x5 x6 x7 0 n25 it_first ft_text) else (if x9 = 1 then (if (ft_text (Int32.toNatClampNeg (it_first + x9))) = x3 then lt (x9 + 1) fun n23 => fX8_isWord_L18 N k x1 x2 x3 x4 x5 x6 x7 1 n23 it_first ft_text else lt (x9 + 1) fun n22 => fX8_isWord_L18 N k x1 x2 x3 x4 x5 x6 x7 0 n22 it_first ft_text) else (if x9 = 2 then (if (ft_text (Int32.toNatClampNeg (it_first + x9))) = x4 then lt (x9 + 1) fun n20 => fX8_isWord_L18 N k x1 x2 x3 x4 x5 x6 x7 1 n20 it_first ft_text else lt (x9 + 1) fun n19 => fX8_isWord_L18 N k x1 x2 x3 x4 x5 x6 x7 0 n19 it_first ft_text) else (if x9 = 3 then (if (ft_text (Int32.toNatClampNeg (it_first + x9))) = x5 then lt (x9 + 1) fun n17 => fX8_isWord_L18 N k x1 x2 x3 x4 x5 x6 x7 1 n17 it_first ft_text else lt (x9 + 1) fun n16 => fX8_isWord_L18 N k x1 x2 x3 x4 x5 x6 x7 0 n16 it_first ft_text) else (if x9 = 4 then (if (ft_text (Int32.toNatClampNeg (it_first + x9))) = x6 then lt (x9 + 1) fun n14 => fX8_isWord_L18 N k x1 x2 x3 x4 x5 x6 x7 1 n14 it_first ft_text else lt (x9 + 1) fun n13 => fX8_isWord_L18 N k x1 x2 x3 x4 x5 x6 x7 0 n13 it_first ft_text) else (if (ft_text (Int32.toNatClampNeg (it_first + x9))) = x7 then lt (x9 + 1) fun n11 => fX8_isWord_L18 N k x1 x2 x3 x4 x5 x6 x7 1 n11 it_first ft_text else lt (x9 + 1) fun n10 => fX8_isWord_L18 N k x1 x2 x3 x4 x5 x6 x7 0 n10 it_first ft_text)))))))))) := rfl
noncomputable def fX8_isWord (N : Nat) (it_first : Int32) (it_length : Int32) (ft_text : Nat → Int32) (x1 : Int32) (x2 : Int32) (x3 : Int32) (x4 : Int32) (x5 : Int32) (x6 : Int32) (x7 : Int32) : Option (Int32) := (if it_length = x1 then bd (fX8_isWord_L18 N N x1 x2 x3 x4 x5 x6 x7 1 0 it_first ft_text) fun n32 => bl n32 (some n32) else bd (fX8_isWord_L18 N N x1 x2 x3 x4 x5 x6 x7 0 0 it_first ft_text) fun n29 => bl n29 (some n29))
set_option maxHeartbeats 4000000 in
set_option maxRecDepth 100000 in
theorem ctX8_isWord (l : Launch) (D : va_G) (cI cZ cB cS : ClassId) (kK kV : Nat → Nat) (sz : Nat) (qt qt_w qt_isKept qt_value qt_weight qt_newTube qt_newPrice qt_newLow qt_newHigh qt_newGoods qt_rhythm qt_rhythmLong qt_slug qt_text qt_of qt_buyerColumn qt_buyerKind qt_buyerCoins qt_tryRow qt_tryLong qt_tryFree : Nat) (it_kinds : Int32) (it_columns : Int32) (it_slugs : Int32) (it_newKinds : Int32) (it_newColumns : Int32) (it_newSlugs : Int32) (it_rhythmTold : Int32) (it_textSize : Int32) (it_at : Int32) (it_first : Int32) (it_length : Int32) (it_faultOf : Int32) (it_fault : Int32) (it_buyerMany : Int32) (it_tryMany : Int32) (ft_text : Nat → Int32) (x1 : Int32) (x2 : Int32) (x3 : Int32) (x4 : Int32) (x5 : Int32) (x6 : Int32) (x7 : Int32) (N : Nat) (r0 : Int32)  (h : fX8_isWord N it_first it_length ft_text x1 x2 x3 x4 x5 x6 x7 = some r0) : CtI l yX8_isWord wsX8_isWord { frames := 0, cells := 0, slots := 0, locals := 0 } D (TY cI cZ cB cS) kK kV [.ref qt, .int x1, .int x2, .int x3, .int x4, .int x5, .int x6, .int x7] [(qt, .inr (8, [.ref qt_w, .ref qt_isKept, .ref qt_value, .ref qt_weight, .ref qt_newTube, .ref qt_newPrice, .ref qt_newLow, .ref qt_newHigh, .ref qt_newGoods, .ref qt_rhythm, .ref qt_rhythmLong, .ref qt_slug, .int it_kinds, .int it_columns, .int it_slugs, .int it_newKinds, .int it_newColumns, .int it_newSlugs, .int it_rhythmTold, .ref qt_text, .int it_textSize, .int it_at, .int it_first, .int it_length, .int it_faultOf, .int it_fault, .ref qt_of, .ref qt_buyerColumn, .ref qt_buyerKind, .ref qt_buyerCoins, .int it_buyerMany, .ref qt_tryRow, .ref qt_tryLong, .ref qt_tryFree, .int it_tryMany])), (qt_text, .inl (cI, 400, .inl ft_text))] [(qt, .inr (8, [.ref qt_w, .ref qt_isKept, .ref qt_value, .ref qt_weight, .ref qt_newTube, .ref qt_newPrice, .ref qt_newLow, .ref qt_newHigh, .ref qt_newGoods, .ref qt_rhythm, .ref qt_rhythmLong, .ref qt_slug, .int it_kinds, .int it_columns, .int it_slugs, .int it_newKinds, .int it_newColumns, .int it_newSlugs, .int it_rhythmTold, .ref qt_text, .int it_textSize, .int it_at, .int it_first, .int it_length, .int it_faultOf, .int it_fault, .ref qt_of, .ref qt_buyerColumn, .ref qt_buyerKind, .ref qt_buyerCoins, .int it_buyerMany, .ref qt_tryRow, .ref qt_tryLong, .ref qt_tryFree, .int it_tryMany])), (qt_text, .inl (cI, 400, .inl ft_text))] sz r0 := by
  refine mkI (cc := cX8_isWord) (maxL := 10) (rt := .boolean) (own := RX8) (by decide) rfl rfl (Nat.le_of_ble_eq_true rfl) ?_
  intro p e s m args below meth c A Z ls hx hb hml hown hts hK hN hX hP hD hA hS hret hl
  have hl : lv_has ls 10 [(0, .ref qt), (1, .int x1), (2, .int x2), (3, .int x3), (4, .int x4), (5, .int x5), (6, .int x6), (7, .int x7)] := hl
  have fl47 : (Cond.fieldLink RX8 47 "SoupWallModel" "text" "[I").before args s = true := hts _ (List.mem_of_getElem? (l := wsX8_isWord) (i := 2) rfl)
  have hiX8 : ∀ w ∈ wsX80, w ∈ wsX8_isWord := fun w h => List.mem_cons_of_mem _ (List.mem_append_right _ h)
  have fl98 : (Cond.fieldLink RX8 98 "SoupWallModel" "first" "I").before args s = true := hts _ (List.mem_of_getElem? (l := wsX8_isWord) (i := 3) rfl)
  have fl105 : (Cond.fieldLink RX8 105 "SoupWallModel" "length" "I").before args s = true := hts _ (List.mem_of_getElem? (l := wsX8_isWord) (i := 1) rfl)
  have lp18 : ∀ (k : Nat) (x1 : Int32) (x2 : Int32) (x3 : Int32) (x4 : Int32) (x5 : Int32) (x6 : Int32) (x7 : Int32) (x8 : Int32) (x9 : Int32)  (H : Heap) (locs : List Loc) (ls : Array Slot) (o : Int32), fX8_isWord_L18 N k x1 x2 x3 x4 x5 x6 x7 x8 x9 it_first ft_text = some o → va_P D vwCl [(qt, .inr (8, [.ref qt_w, .ref qt_isKept, .ref qt_value, .ref qt_weight, .ref qt_newTube, .ref qt_newPrice, .ref qt_newLow, .ref qt_newHigh, .ref qt_newGoods, .ref qt_rhythm, .ref qt_rhythmLong, .ref qt_slug, .int it_kinds, .int it_columns, .int it_slugs, .int it_newKinds, .int it_newColumns, .int it_newSlugs, .int it_rhythmTold, .ref qt_text, .int it_textSize, .int it_at, .int it_first, .int it_length, .int it_faultOf, .int it_fault, .ref qt_of, .ref qt_buyerColumn, .ref qt_buyerKind, .ref qt_buyerCoins, .int it_buyerMany, .ref qt_tryRow, .ref qt_tryLong, .ref qt_tryFree, .int it_tryMany])), (qt_text, .inl (cI, 400, .inl ft_text))] H → va_S A s.heap H locs → lv_has ls 10 [(0, .ref qt), (1, .int x1), (2, .int x2), (3, .int x3), (4, .int x4), (5, .int x5), (6, .int x6), (7, .int x7), (8, .int x8), (9, .int x9)] → (∀ (e8 : Int32), e8 = o → ∀ (H : Heap) (locs : List Loc) (ls : Array Slot), va_P D vwCl [(qt, .inr (8, [.ref qt_w, .ref qt_isKept, .ref qt_value, .ref qt_weight, .ref qt_newTube, .ref qt_newPrice, .ref qt_newLow, .ref qt_newHigh, .ref qt_newGoods, .ref qt_rhythm, .ref qt_rhythmLong, .ref qt_slug, .int it_kinds, .int it_columns, .int it_slugs, .int it_newKinds, .int it_newColumns, .int it_newSlugs, .int it_rhythmTold, .ref qt_text, .int it_textSize, .int it_at, .int it_first, .int it_length, .int it_faultOf, .int it_fault, .ref qt_of, .ref qt_buyerColumn, .ref qt_buyerKind, .ref qt_buyerCoins, .int it_buyerMany, .ref qt_tryRow, .ref qt_tryLong, .ref qt_tryFree, .int it_tryMany])), (qt_text, .inl (cI, 400, .inl ft_text))] H → va_S A s.heap H locs → lv_has ls 10 [(8, .int e8)] → W p l e ({ frames := 0, cells := 0, slots := 0, locals := 0 } : Room) s m args below meth c H locs 0 0 Z (F0 m 111 ls [])) → W p l e ({ frames := 0, cells := 0, slots := 0, locals := 0 } : Room) s m args below meth c H locs 0 0 Z (F0 m 18 ls []) := by
    intro k
    induction k with
    | zero =>
      intro x1 x2 x3 x4 x5 x6 x7 x8 x9 H locs ls o h
      exact nomatch (show (none : Option (Int32)) = some o from h)
    | succ k ih =>
      intro x1 x2 x3 x4 x5 x6 x7 x8 x9 H locs ls o h hP hS hl K
      rw [fX8_isWord_L18_s] at h
      refine lv_iload hx hb dX8_isWord_18 (lv_at hl 9 rfl) ?_
      refine lv_iload_n hx hb dX8_isWord_20 rfl (lv_at hl 1 rfl) ?_
      refine lv_icmp_ge (tgt := 111) hx hb dX8_isWord_21 (by decide) (fun c1 => ?_) (fun c1 => ?_)
      · replace h := if_t c1 h
        exact K x8 (Option.some.inj h) _ _ _ hP hS (lv_sub hl [8] rfl)
      · replace h := if_f c1 h
        refine lv_iload hx hb dX8_isWord_24 (lv_at hl 8 rfl) ?_
        refine lv_if_eq (tgt := 111) hx hb dX8_isWord_26 (by decide) (fun c2 => ?_) (fun c2 => ?_)
        · replace h := if_t c2 h
          exact K x8 (Option.some.inj h) _ _ _ hP hS (lv_sub hl [8] rfl)
        · replace h := if_f c2 h
          refine lv_aload_n hx hb dX8_isWord_29 rfl (lv_at hl 0 rfl) ?_
          refine va_get (ci := 8) (v := .ref qt_text) (C := RX8) (T := TX8) (N := 35) hx hb hts hiX8 hown hK hP 0 rfl rfl 19 (by decide) fl47 (fun _ h9 => h9) rfl dX8_isWord_30 ?_
          refine lv_aload_n hx hb dX8_isWord_33 rfl (lv_at hl 0 rfl) ?_
          refine va_get (ci := 8) (v := .int it_first) (C := RX8) (T := TX8) (N := 35) hx hb hts hiX8 hown hK hP 0 rfl rfl 22 (by decide) fl98 (fun _ h9 => h9) rfl dX8_isWord_34 ?_
          refine lv_iload hx hb dX8_isWord_37 (lv_at hl 9 rfl) ?_
          refine lv_iadd hx hb dX8_isWord_39 ?_
          replace h := ck_el h
          obtain ⟨hi3, h⟩ := h
          refine va_iald hx hb hK hP 1 0 rfl rfl hi3 dX8_isWord_40 ?_
          refine lv_iload hx hb dX8_isWord_41 (lv_at hl 9 rfl) ?_
          refine lv_if_ne (tgt := 50) hx hb dX8_isWord_43 (by decide) (fun c4 => ?_) (fun c4 => ?_)
          · replace h := if_f c4 h
            refine lv_iload hx hb dX8_isWord_50 (lv_at hl 9 rfl) ?_
            refine lv_iconst (v := 1) hx hb dX8_isWord_52 (by decide) ?_
            refine lv_icmp_ne (tgt := 60) hx hb dX8_isWord_53 (by decide) (fun c5 => ?_) (fun c5 => ?_)
            · replace h := if_f c5 h
              refine lv_iload hx hb dX8_isWord_60 (lv_at hl 9 rfl) ?_
              refine lv_iconst (v := 2) hx hb dX8_isWord_62 (by decide) ?_
              refine lv_icmp_ne (tgt := 71) hx hb dX8_isWord_63 (by decide) (fun c6 => ?_) (fun c6 => ?_)
              · replace h := if_f c6 h
                refine lv_iload hx hb dX8_isWord_71 (lv_at hl 9 rfl) ?_
                refine lv_iconst (v := 3) hx hb dX8_isWord_73 (by decide) ?_
                refine lv_icmp_ne (tgt := 82) hx hb dX8_isWord_74 (by decide) (fun c7 => ?_) (fun c7 => ?_)
                · replace h := if_f c7 h
                  refine lv_iload hx hb dX8_isWord_82 (lv_at hl 9 rfl) ?_
                  refine lv_iconst (v := 4) hx hb dX8_isWord_84 (by decide) ?_
                  refine lv_icmp_ne (tgt := 93) hx hb dX8_isWord_85 (by decide) (fun c8 => ?_) (fun c8 => ?_)
                  · replace h := if_f c8 h
                    refine lv_iload hx hb dX8_isWord_93 (lv_at hl 7 rfl) ?_
                    refine lv_icmp_ne (tgt := 102) hx hb dX8_isWord_95 (by decide) (fun c9 => ?_) (fun c9 => ?_)
                    · replace h := if_f c9 h
                      refine lv_iconst (v := 0) hx hb dX8_isWord_102 (by decide) ?_
                      refine lv_istore (lv' := [(8, .int 0), (0, .ref qt), (1, .int x1), (2, .int x2), (3, .int x3), (4, .int x4), (5, .int x5), (6, .int x6), (7, .int x7), (9, .int x9)]) hx hb dX8_isWord_103 hl (by decide) rfl (fun ls hl => ?_)
                      obtain ⟨n10, en10⟩ : ∃ z : Int32, z = x9 + 1 := ⟨_, rfl⟩
                      replace h := lt_at en10 h
                      refine lv_iinc (v := n10) (lv' := [(9, .int n10), (8, .int 0), (0, .ref qt), (1, .int x1), (2, .int x2), (3, .int x3), (4, .int x4), (5, .int x5), (6, .int x6), (7, .int x7)]) hx hb dX8_isWord_105 hl (k := 9) rfl (by rw [en10]; rfl) (by decide) rfl (fun ls hl => ?_)
                      refine lv_goto (tgt := 18) hx hb dX8_isWord_108 (by decide) ?_
                      exact ih x1 x2 x3 x4 x5 x6 x7 0 n10 _ _ _ o h hP hS (lv_sub hl [2, 3, 4, 5, 6, 7, 8, 9, 1, 0] rfl) K
                    · replace h := if_t c9 h
                      refine lv_iconst (v := 1) hx hb dX8_isWord_98 (by decide) ?_
                      refine lv_goto (tgt := 103) hx hb dX8_isWord_99 (by decide) ?_
                      refine lv_istore (lv' := [(8, .int 1), (0, .ref qt), (1, .int x1), (2, .int x2), (3, .int x3), (4, .int x4), (5, .int x5), (6, .int x6), (7, .int x7), (9, .int x9)]) hx hb dX8_isWord_103 hl (by decide) rfl (fun ls hl => ?_)
                      obtain ⟨n11, en11⟩ : ∃ z : Int32, z = x9 + 1 := ⟨_, rfl⟩
                      replace h := lt_at en11 h
                      refine lv_iinc (v := n11) (lv' := [(9, .int n11), (8, .int 1), (0, .ref qt), (1, .int x1), (2, .int x2), (3, .int x3), (4, .int x4), (5, .int x5), (6, .int x6), (7, .int x7)]) hx hb dX8_isWord_105 hl (k := 9) rfl (by rw [en11]; rfl) (by decide) rfl (fun ls hl => ?_)
                      refine lv_goto (tgt := 18) hx hb dX8_isWord_108 (by decide) ?_
                      exact ih x1 x2 x3 x4 x5 x6 x7 1 n11 _ _ _ o h hP hS (lv_sub hl [2, 3, 4, 5, 6, 7, 8, 9, 1, 0] rfl) K
                  · replace h := if_t c8 h
                    refine lv_iload hx hb dX8_isWord_88 (lv_at hl 6 rfl) ?_
                    refine lv_goto (tgt := 95) hx hb dX8_isWord_90 (by decide) ?_
                    refine lv_icmp_ne (tgt := 102) hx hb dX8_isWord_95 (by decide) (fun c12 => ?_) (fun c12 => ?_)
                    · replace h := if_f c12 h
                      refine lv_iconst (v := 0) hx hb dX8_isWord_102 (by decide) ?_
                      refine lv_istore (lv' := [(8, .int 0), (0, .ref qt), (1, .int x1), (2, .int x2), (3, .int x3), (4, .int x4), (5, .int x5), (6, .int x6), (7, .int x7), (9, .int x9)]) hx hb dX8_isWord_103 hl (by decide) rfl (fun ls hl => ?_)
                      obtain ⟨n13, en13⟩ : ∃ z : Int32, z = x9 + 1 := ⟨_, rfl⟩
                      replace h := lt_at en13 h
                      refine lv_iinc (v := n13) (lv' := [(9, .int n13), (8, .int 0), (0, .ref qt), (1, .int x1), (2, .int x2), (3, .int x3), (4, .int x4), (5, .int x5), (6, .int x6), (7, .int x7)]) hx hb dX8_isWord_105 hl (k := 9) rfl (by rw [en13]; rfl) (by decide) rfl (fun ls hl => ?_)
                      refine lv_goto (tgt := 18) hx hb dX8_isWord_108 (by decide) ?_
                      exact ih x1 x2 x3 x4 x5 x6 x7 0 n13 _ _ _ o h hP hS (lv_sub hl [2, 3, 4, 5, 6, 7, 8, 9, 1, 0] rfl) K
                    · replace h := if_t c12 h
                      refine lv_iconst (v := 1) hx hb dX8_isWord_98 (by decide) ?_
                      refine lv_goto (tgt := 103) hx hb dX8_isWord_99 (by decide) ?_
                      refine lv_istore (lv' := [(8, .int 1), (0, .ref qt), (1, .int x1), (2, .int x2), (3, .int x3), (4, .int x4), (5, .int x5), (6, .int x6), (7, .int x7), (9, .int x9)]) hx hb dX8_isWord_103 hl (by decide) rfl (fun ls hl => ?_)
                      obtain ⟨n14, en14⟩ : ∃ z : Int32, z = x9 + 1 := ⟨_, rfl⟩
                      replace h := lt_at en14 h
                      refine lv_iinc (v := n14) (lv' := [(9, .int n14), (8, .int 1), (0, .ref qt), (1, .int x1), (2, .int x2), (3, .int x3), (4, .int x4), (5, .int x5), (6, .int x6), (7, .int x7)]) hx hb dX8_isWord_105 hl (k := 9) rfl (by rw [en14]; rfl) (by decide) rfl (fun ls hl => ?_)
                      refine lv_goto (tgt := 18) hx hb dX8_isWord_108 (by decide) ?_
                      exact ih x1 x2 x3 x4 x5 x6 x7 1 n14 _ _ _ o h hP hS (lv_sub hl [2, 3, 4, 5, 6, 7, 8, 9, 1, 0] rfl) K
                · replace h := if_t c7 h
                  refine lv_iload hx hb dX8_isWord_77 (lv_at hl 5 rfl) ?_
                  refine lv_goto (tgt := 95) hx hb dX8_isWord_79 (by decide) ?_
                  refine lv_icmp_ne (tgt := 102) hx hb dX8_isWord_95 (by decide) (fun c15 => ?_) (fun c15 => ?_)
                  · replace h := if_f c15 h
                    refine lv_iconst (v := 0) hx hb dX8_isWord_102 (by decide) ?_
                    refine lv_istore (lv' := [(8, .int 0), (0, .ref qt), (1, .int x1), (2, .int x2), (3, .int x3), (4, .int x4), (5, .int x5), (6, .int x6), (7, .int x7), (9, .int x9)]) hx hb dX8_isWord_103 hl (by decide) rfl (fun ls hl => ?_)
                    obtain ⟨n16, en16⟩ : ∃ z : Int32, z = x9 + 1 := ⟨_, rfl⟩
                    replace h := lt_at en16 h
                    refine lv_iinc (v := n16) (lv' := [(9, .int n16), (8, .int 0), (0, .ref qt), (1, .int x1), (2, .int x2), (3, .int x3), (4, .int x4), (5, .int x5), (6, .int x6), (7, .int x7)]) hx hb dX8_isWord_105 hl (k := 9) rfl (by rw [en16]; rfl) (by decide) rfl (fun ls hl => ?_)
                    refine lv_goto (tgt := 18) hx hb dX8_isWord_108 (by decide) ?_
                    exact ih x1 x2 x3 x4 x5 x6 x7 0 n16 _ _ _ o h hP hS (lv_sub hl [2, 3, 4, 5, 6, 7, 8, 9, 1, 0] rfl) K
                  · replace h := if_t c15 h
                    refine lv_iconst (v := 1) hx hb dX8_isWord_98 (by decide) ?_
                    refine lv_goto (tgt := 103) hx hb dX8_isWord_99 (by decide) ?_
                    refine lv_istore (lv' := [(8, .int 1), (0, .ref qt), (1, .int x1), (2, .int x2), (3, .int x3), (4, .int x4), (5, .int x5), (6, .int x6), (7, .int x7), (9, .int x9)]) hx hb dX8_isWord_103 hl (by decide) rfl (fun ls hl => ?_)
                    obtain ⟨n17, en17⟩ : ∃ z : Int32, z = x9 + 1 := ⟨_, rfl⟩
                    replace h := lt_at en17 h
                    refine lv_iinc (v := n17) (lv' := [(9, .int n17), (8, .int 1), (0, .ref qt), (1, .int x1), (2, .int x2), (3, .int x3), (4, .int x4), (5, .int x5), (6, .int x6), (7, .int x7)]) hx hb dX8_isWord_105 hl (k := 9) rfl (by rw [en17]; rfl) (by decide) rfl (fun ls hl => ?_)
                    refine lv_goto (tgt := 18) hx hb dX8_isWord_108 (by decide) ?_
                    exact ih x1 x2 x3 x4 x5 x6 x7 1 n17 _ _ _ o h hP hS (lv_sub hl [2, 3, 4, 5, 6, 7, 8, 9, 1, 0] rfl) K
              · replace h := if_t c6 h
                refine lv_iload hx hb dX8_isWord_66 (lv_at hl 4 rfl) ?_
                refine lv_goto (tgt := 95) hx hb dX8_isWord_68 (by decide) ?_
                refine lv_icmp_ne (tgt := 102) hx hb dX8_isWord_95 (by decide) (fun c18 => ?_) (fun c18 => ?_)
                · replace h := if_f c18 h
                  refine lv_iconst (v := 0) hx hb dX8_isWord_102 (by decide) ?_
                  refine lv_istore (lv' := [(8, .int 0), (0, .ref qt), (1, .int x1), (2, .int x2), (3, .int x3), (4, .int x4), (5, .int x5), (6, .int x6), (7, .int x7), (9, .int x9)]) hx hb dX8_isWord_103 hl (by decide) rfl (fun ls hl => ?_)
                  obtain ⟨n19, en19⟩ : ∃ z : Int32, z = x9 + 1 := ⟨_, rfl⟩
                  replace h := lt_at en19 h
                  refine lv_iinc (v := n19) (lv' := [(9, .int n19), (8, .int 0), (0, .ref qt), (1, .int x1), (2, .int x2), (3, .int x3), (4, .int x4), (5, .int x5), (6, .int x6), (7, .int x7)]) hx hb dX8_isWord_105 hl (k := 9) rfl (by rw [en19]; rfl) (by decide) rfl (fun ls hl => ?_)
                  refine lv_goto (tgt := 18) hx hb dX8_isWord_108 (by decide) ?_
                  exact ih x1 x2 x3 x4 x5 x6 x7 0 n19 _ _ _ o h hP hS (lv_sub hl [2, 3, 4, 5, 6, 7, 8, 9, 1, 0] rfl) K
                · replace h := if_t c18 h
                  refine lv_iconst (v := 1) hx hb dX8_isWord_98 (by decide) ?_
                  refine lv_goto (tgt := 103) hx hb dX8_isWord_99 (by decide) ?_
                  refine lv_istore (lv' := [(8, .int 1), (0, .ref qt), (1, .int x1), (2, .int x2), (3, .int x3), (4, .int x4), (5, .int x5), (6, .int x6), (7, .int x7), (9, .int x9)]) hx hb dX8_isWord_103 hl (by decide) rfl (fun ls hl => ?_)
                  obtain ⟨n20, en20⟩ : ∃ z : Int32, z = x9 + 1 := ⟨_, rfl⟩
                  replace h := lt_at en20 h
                  refine lv_iinc (v := n20) (lv' := [(9, .int n20), (8, .int 1), (0, .ref qt), (1, .int x1), (2, .int x2), (3, .int x3), (4, .int x4), (5, .int x5), (6, .int x6), (7, .int x7)]) hx hb dX8_isWord_105 hl (k := 9) rfl (by rw [en20]; rfl) (by decide) rfl (fun ls hl => ?_)
                  refine lv_goto (tgt := 18) hx hb dX8_isWord_108 (by decide) ?_
                  exact ih x1 x2 x3 x4 x5 x6 x7 1 n20 _ _ _ o h hP hS (lv_sub hl [2, 3, 4, 5, 6, 7, 8, 9, 1, 0] rfl) K
            · replace h := if_t c5 h
              refine lv_iload_n hx hb dX8_isWord_56 rfl (lv_at hl 3 rfl) ?_
              refine lv_goto (tgt := 95) hx hb dX8_isWord_57 (by decide) ?_
              refine lv_icmp_ne (tgt := 102) hx hb dX8_isWord_95 (by decide) (fun c21 => ?_) (fun c21 => ?_)
              · replace h := if_f c21 h
                refine lv_iconst (v := 0) hx hb dX8_isWord_102 (by decide) ?_
                refine lv_istore (lv' := [(8, .int 0), (0, .ref qt), (1, .int x1), (2, .int x2), (3, .int x3), (4, .int x4), (5, .int x5), (6, .int x6), (7, .int x7), (9, .int x9)]) hx hb dX8_isWord_103 hl (by decide) rfl (fun ls hl => ?_)
                obtain ⟨n22, en22⟩ : ∃ z : Int32, z = x9 + 1 := ⟨_, rfl⟩
                replace h := lt_at en22 h
                refine lv_iinc (v := n22) (lv' := [(9, .int n22), (8, .int 0), (0, .ref qt), (1, .int x1), (2, .int x2), (3, .int x3), (4, .int x4), (5, .int x5), (6, .int x6), (7, .int x7)]) hx hb dX8_isWord_105 hl (k := 9) rfl (by rw [en22]; rfl) (by decide) rfl (fun ls hl => ?_)
                refine lv_goto (tgt := 18) hx hb dX8_isWord_108 (by decide) ?_
                exact ih x1 x2 x3 x4 x5 x6 x7 0 n22 _ _ _ o h hP hS (lv_sub hl [2, 3, 4, 5, 6, 7, 8, 9, 1, 0] rfl) K
              · replace h := if_t c21 h
                refine lv_iconst (v := 1) hx hb dX8_isWord_98 (by decide) ?_
                refine lv_goto (tgt := 103) hx hb dX8_isWord_99 (by decide) ?_
                refine lv_istore (lv' := [(8, .int 1), (0, .ref qt), (1, .int x1), (2, .int x2), (3, .int x3), (4, .int x4), (5, .int x5), (6, .int x6), (7, .int x7), (9, .int x9)]) hx hb dX8_isWord_103 hl (by decide) rfl (fun ls hl => ?_)
                obtain ⟨n23, en23⟩ : ∃ z : Int32, z = x9 + 1 := ⟨_, rfl⟩
                replace h := lt_at en23 h
                refine lv_iinc (v := n23) (lv' := [(9, .int n23), (8, .int 1), (0, .ref qt), (1, .int x1), (2, .int x2), (3, .int x3), (4, .int x4), (5, .int x5), (6, .int x6), (7, .int x7)]) hx hb dX8_isWord_105 hl (k := 9) rfl (by rw [en23]; rfl) (by decide) rfl (fun ls hl => ?_)
                refine lv_goto (tgt := 18) hx hb dX8_isWord_108 (by decide) ?_
                exact ih x1 x2 x3 x4 x5 x6 x7 1 n23 _ _ _ o h hP hS (lv_sub hl [2, 3, 4, 5, 6, 7, 8, 9, 1, 0] rfl) K
          · replace h := if_t c4 h
            refine lv_iload_n hx hb dX8_isWord_46 rfl (lv_at hl 2 rfl) ?_
            refine lv_goto (tgt := 95) hx hb dX8_isWord_47 (by decide) ?_
            refine lv_icmp_ne (tgt := 102) hx hb dX8_isWord_95 (by decide) (fun c24 => ?_) (fun c24 => ?_)
            · replace h := if_f c24 h
              refine lv_iconst (v := 0) hx hb dX8_isWord_102 (by decide) ?_
              refine lv_istore (lv' := [(8, .int 0), (0, .ref qt), (1, .int x1), (2, .int x2), (3, .int x3), (4, .int x4), (5, .int x5), (6, .int x6), (7, .int x7), (9, .int x9)]) hx hb dX8_isWord_103 hl (by decide) rfl (fun ls hl => ?_)
              obtain ⟨n25, en25⟩ : ∃ z : Int32, z = x9 + 1 := ⟨_, rfl⟩
              replace h := lt_at en25 h
              refine lv_iinc (v := n25) (lv' := [(9, .int n25), (8, .int 0), (0, .ref qt), (1, .int x1), (2, .int x2), (3, .int x3), (4, .int x4), (5, .int x5), (6, .int x6), (7, .int x7)]) hx hb dX8_isWord_105 hl (k := 9) rfl (by rw [en25]; rfl) (by decide) rfl (fun ls hl => ?_)
              refine lv_goto (tgt := 18) hx hb dX8_isWord_108 (by decide) ?_
              exact ih x1 x2 x3 x4 x5 x6 x7 0 n25 _ _ _ o h hP hS (lv_sub hl [2, 3, 4, 5, 6, 7, 8, 9, 1, 0] rfl) K
            · replace h := if_t c24 h
              refine lv_iconst (v := 1) hx hb dX8_isWord_98 (by decide) ?_
              refine lv_goto (tgt := 103) hx hb dX8_isWord_99 (by decide) ?_
              refine lv_istore (lv' := [(8, .int 1), (0, .ref qt), (1, .int x1), (2, .int x2), (3, .int x3), (4, .int x4), (5, .int x5), (6, .int x6), (7, .int x7), (9, .int x9)]) hx hb dX8_isWord_103 hl (by decide) rfl (fun ls hl => ?_)
              obtain ⟨n26, en26⟩ : ∃ z : Int32, z = x9 + 1 := ⟨_, rfl⟩
              replace h := lt_at en26 h
              refine lv_iinc (v := n26) (lv' := [(9, .int n26), (8, .int 1), (0, .ref qt), (1, .int x1), (2, .int x2), (3, .int x3), (4, .int x4), (5, .int x5), (6, .int x6), (7, .int x7)]) hx hb dX8_isWord_105 hl (k := 9) rfl (by rw [en26]; rfl) (by decide) rfl (fun ls hl => ?_)
              refine lv_goto (tgt := 18) hx hb dX8_isWord_108 (by decide) ?_
              exact ih x1 x2 x3 x4 x5 x6 x7 1 n26 _ _ _ o h hP hS (lv_sub hl [2, 3, 4, 5, 6, 7, 8, 9, 1, 0] rfl) K
  unfold fX8_isWord at h
  refine lv_aload_n hx hb dX8_isWord_0 rfl (lv_at hl 0 rfl) ?_
  refine va_get (ci := 8) (v := .int it_length) (C := RX8) (T := TX8) (N := 35) hx hb hts hiX8 hown hK hP 0 rfl rfl 23 (by decide) fl105 (fun _ h9 => h9) rfl dX8_isWord_1 ?_
  refine lv_iload_n hx hb dX8_isWord_4 rfl (lv_at hl 1 rfl) ?_
  refine lv_icmp_ne (tgt := 12) hx hb dX8_isWord_5 (by decide) (fun c27 => ?_) (fun c27 => ?_)
  · replace h := if_f c27 h
    refine lv_iconst (v := 0) hx hb dX8_isWord_12 (by decide) ?_
    refine lv_istore (lv' := [(8, .int 0), (0, .ref qt), (1, .int x1), (2, .int x2), (3, .int x3), (4, .int x4), (5, .int x5), (6, .int x6), (7, .int x7)]) hx hb dX8_isWord_13 hl (by decide) rfl (fun ls hl => ?_)
    refine lv_iconst (v := 0) hx hb dX8_isWord_15 (by decide) ?_
    refine lv_istore (lv' := [(9, .int 0), (8, .int 0), (0, .ref qt), (1, .int x1), (2, .int x2), (3, .int x3), (4, .int x4), (5, .int x5), (6, .int x6), (7, .int x7)]) hx hb dX8_isWord_16 hl (by decide) rfl (fun ls hl => ?_)
    replace h := bd_el h
    obtain ⟨o28, ho28, h⟩ := h
    refine lp18 N x1 x2 x3 x4 x5 x6 x7 0 0 _ _ _ o28 ho28 hP hS (lv_sub hl [2, 3, 4, 5, 6, 7, 8, 9, 1, 0] rfl) (fun n29 eo H locs ls hP hS hl => ?_)
    subst eo
    refine lv_iload hx hb dX8_isWord_111 (lv_at hl 0 rfl) ?_
    replace h := bl_el h
    obtain ⟨hn30, h⟩ := h
    simp only [Option.some.injEq] at h
    subst h
    exact hret _ _ _ _ hP hS hn30 dX8_isWord_113
  · replace h := if_t c27 h
    refine lv_iconst (v := 1) hx hb dX8_isWord_8 (by decide) ?_
    refine lv_goto (tgt := 13) hx hb dX8_isWord_9 (by decide) ?_
    refine lv_istore (lv' := [(8, .int 1), (0, .ref qt), (1, .int x1), (2, .int x2), (3, .int x3), (4, .int x4), (5, .int x5), (6, .int x6), (7, .int x7)]) hx hb dX8_isWord_13 hl (by decide) rfl (fun ls hl => ?_)
    refine lv_iconst (v := 0) hx hb dX8_isWord_15 (by decide) ?_
    refine lv_istore (lv' := [(9, .int 0), (8, .int 1), (0, .ref qt), (1, .int x1), (2, .int x2), (3, .int x3), (4, .int x4), (5, .int x5), (6, .int x6), (7, .int x7)]) hx hb dX8_isWord_16 hl (by decide) rfl (fun ls hl => ?_)
    replace h := bd_el h
    obtain ⟨o31, ho31, h⟩ := h
    refine lp18 N x1 x2 x3 x4 x5 x6 x7 1 0 _ _ _ o31 ho31 hP hS (lv_sub hl [2, 3, 4, 5, 6, 7, 8, 9, 1, 0] rfl) (fun n32 eo H locs ls hP hS hl => ?_)
    subst eo
    refine lv_iload hx hb dX8_isWord_111 (lv_at hl 0 rfl) ?_
    replace h := bl_el h
    obtain ⟨hn33, h⟩ := h
    simp only [Option.some.injEq] at h
    subst h
    exact hret _ _ _ _ hP hS hn33 dX8_isWord_113
theorem hdX8_isWord : yX8_isWord.cls = RX8 ∧ yX8_isWord.cls ≠ "java/lang/invoke/MethodHandle" ∧ yX8_isWord.cls ≠ "java/lang/invoke/VarHandle" ∧ (parseMethodDescriptor yX8_isWord.desc).map (fun d => d.parameters.length) = some 7 := by decide +kernel

noncomputable def fX8_takeNumber_L50 (N : Nat) : Nat → Int32 → Int32 → Int32 → Int32 → Int32 → (Nat → Int32) → Option (Int32 × Int32)
  | 0, _, _, _, _, _, _ => none
  | k + 1, x1, x2, x4, it_textSize, it_at, ft_text => (if it_textSize ≤ it_at then some (x4, it_at) else ck it_at 400 (bd (fX8_in N (Int32.toInt64 (ft_text (Int32.toNatClampNeg it_at))) 48 57) fun r3 => (if r3 = 0 then some (x4, it_at) else (if x4 ≤ 99999 then lt (((10 * x4) + (ft_text (Int32.toNatClampNeg it_at))) - 48) fun n7 => lt (it_at + 1) fun n8 => fX8_takeNumber_L50 N k x1 x2 n7 it_textSize n8 ft_text else lt (it_at + 1) fun n9 => fX8_takeNumber_L50 N k x1 x2 x4 it_textSize n9 ft_text))))
theorem fX8_takeNumber_L50_s (N : Nat) (k : Nat) (x1 : Int32) (x2 : Int32) (x4 : Int32) (it_textSize : Int32) (it_at : Int32) (ft_text : Nat → Int32) : fX8_takeNumber_L50 N (k + 1) x1 x2 x4 it_textSize it_at ft_text = ((if it_textSize ≤ it_at then some (x4, it_at) else ck it_at 400 (bd (fX8_in N (Int32.toInt64 (ft_text (Int32.toNatClampNeg it_at))) 48 57) fun r3 => (if r3 = 0 then some (x4, it_at) else (if x4 ≤ 99999 then lt (((10 * x4) + (ft_text (Int32.toNatClampNeg it_at))) - 48) fun n7 => lt (it_at + 1) fun n8 => fX8_takeNumber_L50 N k x1 x2 n7 it_textSize n8 ft_text else lt (it_at + 1) fun n9 => fX8_takeNumber_L50 N k x1 x2 x4 it_textSize n9 ft_text))))) := rfl
noncomputable def fX8_takeNumber (N : Nat) (it_textSize : Int32) (it_at : Int32) (it_first : Int32) (it_faultOf : Int32) (it_fault : Int32) (ft_text : Nat → Int32) (x1 : Int32) (x2 : Int32) : Option (Int32 × Int32 × Int32 × Int32 × Int32) := (if it_faultOf ≤ 0 then bd (fX8_here N it_textSize it_at ft_text) fun (r11, g12) => bd (fX8_in N (Int32.toInt64 r11) 48 57) fun r14 => bd (fX8_want N it_faultOf it_fault r14 1 g12) fun (r16, g17, g18) => (if r16 = 0 then some (0, g12, g12, g17, g18) else bd (fX8_takeNumber_L50 N N x1 x2 0 it_textSize g12 ft_text) fun (n22, g23) => (if 4 ≤ (g23 - g12) then bd (fX8_want N g17 g18 0 2 g12) fun (r25, g26, g27) => some (n22, g23, g12, g26, g27) else bd (fX8_in N (Int32.toInt64 n22) (Int32.toInt64 x1) (Int32.toInt64 x2)) fun r29 => (if r29 = 0 then bd (fX8_want N g17 g18 0 2 g12) fun (r32, g33, g34) => some (n22, g23, g12, g33, g34) else bd (fX8_want N g17 g18 1 2 g12) fun (r36, g37, g38) => some (n22, g23, g12, g37, g38)))) else some (0, it_at, it_first, it_faultOf, it_fault))
set_option maxHeartbeats 4000000 in
set_option maxRecDepth 100000 in
theorem ctX8_takeNumber (l : Launch) (D : va_G) (cI cZ cB cS : ClassId) (kK kV : Nat → Nat) (sz : Nat) (qt qt_w qt_isKept qt_value qt_weight qt_newTube qt_newPrice qt_newLow qt_newHigh qt_newGoods qt_rhythm qt_rhythmLong qt_slug qt_text qt_of qt_buyerColumn qt_buyerKind qt_buyerCoins qt_tryRow qt_tryLong qt_tryFree : Nat) (it_kinds : Int32) (it_columns : Int32) (it_slugs : Int32) (it_newKinds : Int32) (it_newColumns : Int32) (it_newSlugs : Int32) (it_rhythmTold : Int32) (it_textSize : Int32) (it_at : Int32) (it_first : Int32) (it_length : Int32) (it_faultOf : Int32) (it_fault : Int32) (it_buyerMany : Int32) (it_tryMany : Int32) (ft_text : Nat → Int32) (x1 : Int32) (x2 : Int32) (N : Nat) (r0 : Int32) (w_it_at : Int32) (w_it_first : Int32) (w_it_faultOf : Int32) (w_it_fault : Int32) (h : fX8_takeNumber N it_textSize it_at it_first it_faultOf it_fault ft_text x1 x2 = some (r0, w_it_at, w_it_first, w_it_faultOf, w_it_fault)) : CtI l yX8_takeNumber wsX8_takeNumber { frames := 1, cells := 0, slots := 0, locals := 25 } D (TY cI cZ cB cS) kK kV [.ref qt, .int x1, .int x2] [(qt, .inr (8, [.ref qt_w, .ref qt_isKept, .ref qt_value, .ref qt_weight, .ref qt_newTube, .ref qt_newPrice, .ref qt_newLow, .ref qt_newHigh, .ref qt_newGoods, .ref qt_rhythm, .ref qt_rhythmLong, .ref qt_slug, .int it_kinds, .int it_columns, .int it_slugs, .int it_newKinds, .int it_newColumns, .int it_newSlugs, .int it_rhythmTold, .ref qt_text, .int it_textSize, .int it_at, .int it_first, .int it_length, .int it_faultOf, .int it_fault, .ref qt_of, .ref qt_buyerColumn, .ref qt_buyerKind, .ref qt_buyerCoins, .int it_buyerMany, .ref qt_tryRow, .ref qt_tryLong, .ref qt_tryFree, .int it_tryMany])), (qt_text, .inl (cI, 400, .inl ft_text))] [(qt, .inr (8, [.ref qt_w, .ref qt_isKept, .ref qt_value, .ref qt_weight, .ref qt_newTube, .ref qt_newPrice, .ref qt_newLow, .ref qt_newHigh, .ref qt_newGoods, .ref qt_rhythm, .ref qt_rhythmLong, .ref qt_slug, .int it_kinds, .int it_columns, .int it_slugs, .int it_newKinds, .int it_newColumns, .int it_newSlugs, .int it_rhythmTold, .ref qt_text, .int it_textSize, .int w_it_at, .int w_it_first, .int it_length, .int w_it_faultOf, .int w_it_fault, .ref qt_of, .ref qt_buyerColumn, .ref qt_buyerKind, .ref qt_buyerCoins, .int it_buyerMany, .ref qt_tryRow, .ref qt_tryLong, .ref qt_tryFree, .int it_tryMany])), (qt_text, .inl (cI, 400, .inl ft_text))] sz r0 := by
  refine mkI (cc := cX8_takeNumber) (maxL := 6) (rt := .int) (own := RX8) (by decide) rfl rfl (Nat.le_of_ble_eq_true rfl) ?_
  intro p e s m args below meth c A Z ls hx hb hml hown hts hK hN hX hP hD hA hS hret hl
  have hl : lv_has ls 6 [(0, .ref qt), (1, .int x1), (2, .int x2)] := hl
  have fl88 : (Cond.fieldLink RX8 88 "SoupWallModel" "at" "I").before args s = true := hts _ (List.mem_of_getElem? (l := wsX8_takeNumber) (i := 2) rfl)
  have hiX8 : ∀ w ∈ wsX80, w ∈ wsX8_takeNumber := fun w h => List.mem_cons_of_mem _ (List.mem_append_right _ h)
  have fl82 : (Cond.fieldLink RX8 82 "SoupWallModel" "textSize" "I").before args s = true := hts _ (List.mem_of_getElem? (l := wsX8_takeNumber) (i := 6) rfl)
  have fl47 : (Cond.fieldLink RX8 47 "SoupWallModel" "text" "[I").before args s = true := hts _ (List.mem_of_getElem? (l := wsX8_takeNumber) (i := 7) rfl)
  have cn108 : (Cond.constantLong RX8 108 (48)).before args s = true := hts _ (List.mem_of_getElem? (l := wsX8_takeNumber) (i := 4) rfl)
  have cn110 : (Cond.constantLong RX8 110 (57)).before args s = true := hts _ (List.mem_of_getElem? (l := wsX8_takeNumber) (i := 5) rfl)
  have cn116 : (Cond.constant RX8 116 (99999)).before args s = true := hts _ (List.mem_of_getElem? (l := wsX8_takeNumber) (i := 8) rfl)
  have fl91 : (Cond.fieldLink RX8 91 "SoupWallModel" "faultOf" "I").before args s = true := hts _ (List.mem_of_getElem? (l := wsX8_takeNumber) (i := 1) rfl)
  have fl98 : (Cond.fieldLink RX8 98 "SoupWallModel" "first" "I").before args s = true := hts _ (List.mem_of_getElem? (l := wsX8_takeNumber) (i := 3) rfl)
  have lp50 : ∀ (k : Nat) (x1 : Int32) (x2 : Int32) (x4 : Int32) (it_at : Int32) (it_first : Int32) (it_faultOf : Int32) (it_fault : Int32) (H : Heap) (locs : List Loc) (ls : Array Slot) (o : Int32 × Int32), fX8_takeNumber_L50 N k x1 x2 x4 it_textSize it_at ft_text = some o → va_P D vwCl [(qt, .inr (8, [.ref qt_w, .ref qt_isKept, .ref qt_value, .ref qt_weight, .ref qt_newTube, .ref qt_newPrice, .ref qt_newLow, .ref qt_newHigh, .ref qt_newGoods, .ref qt_rhythm, .ref qt_rhythmLong, .ref qt_slug, .int it_kinds, .int it_columns, .int it_slugs, .int it_newKinds, .int it_newColumns, .int it_newSlugs, .int it_rhythmTold, .ref qt_text, .int it_textSize, .int it_at, .int it_first, .int it_length, .int it_faultOf, .int it_fault, .ref qt_of, .ref qt_buyerColumn, .ref qt_buyerKind, .ref qt_buyerCoins, .int it_buyerMany, .ref qt_tryRow, .ref qt_tryLong, .ref qt_tryFree, .int it_tryMany])), (qt_text, .inl (cI, 400, .inl ft_text))] H → va_S A s.heap H locs → lv_has ls 6 [(0, .ref qt), (1, .int x1), (2, .int x2), (4, .int x4)] → (∀ (e4 : Int32) (e_it_at : Int32), (e4, e_it_at) = o → ∀ (H : Heap) (locs : List Loc) (ls : Array Slot), va_P D vwCl [(qt, .inr (8, [.ref qt_w, .ref qt_isKept, .ref qt_value, .ref qt_weight, .ref qt_newTube, .ref qt_newPrice, .ref qt_newLow, .ref qt_newHigh, .ref qt_newGoods, .ref qt_rhythm, .ref qt_rhythmLong, .ref qt_slug, .int it_kinds, .int it_columns, .int it_slugs, .int it_newKinds, .int it_newColumns, .int it_newSlugs, .int it_rhythmTold, .ref qt_text, .int it_textSize, .int e_it_at, .int it_first, .int it_length, .int it_faultOf, .int it_fault, .ref qt_of, .ref qt_buyerColumn, .ref qt_buyerKind, .ref qt_buyerCoins, .int it_buyerMany, .ref qt_tryRow, .ref qt_tryLong, .ref qt_tryFree, .int it_tryMany])), (qt_text, .inl (cI, 400, .inl ft_text))] H → va_S A s.heap H locs → lv_has ls 6 [(0, .ref qt), (1, .int x1), (2, .int x2), (4, .int e4)] → W p l e ({ frames := 1, cells := 0, slots := 0, locals := 25 } : Room) s m args below meth c H locs 0 0 Z (F0 m 128 ls [])) → W p l e ({ frames := 1, cells := 0, slots := 0, locals := 25 } : Room) s m args below meth c H locs 0 0 Z (F0 m 50 ls []) := by
    intro k
    induction k with
    | zero =>
      intro x1 x2 x4 it_at it_first it_faultOf it_fault H locs ls o h
      exact nomatch (show (none : Option (Int32 × Int32)) = some o from h)
    | succ k ih =>
      intro x1 x2 x4 it_at it_first it_faultOf it_fault H locs ls o h hP hS hl K
      rw [fX8_takeNumber_L50_s] at h
      refine lv_aload_n hx hb dX8_takeNumber_50 rfl (lv_at hl 0 rfl) ?_
      refine va_get (ci := 8) (v := .int it_at) (C := RX8) (T := TX8) (N := 35) hx hb hts hiX8 hown hK hP 0 rfl rfl 21 (by decide) fl88 (fun _ h9 => h9) rfl dX8_takeNumber_51 ?_
      refine lv_aload_n hx hb dX8_takeNumber_54 rfl (lv_at hl 0 rfl) ?_
      refine va_get (ci := 8) (v := .int it_textSize) (C := RX8) (T := TX8) (N := 35) hx hb hts hiX8 hown hK hP 0 rfl rfl 20 (by decide) fl82 (fun _ h9 => h9) rfl dX8_takeNumber_55 ?_
      refine lv_icmp_ge (tgt := 128) hx hb dX8_takeNumber_58 (by decide) (fun c1 => ?_) (fun c1 => ?_)
      · replace h := if_t c1 h
        exact K x4 it_at (Option.some.inj h) _ _ _ hP hS (lv_sub hl [0, 1, 2, 3] rfl)
      · replace h := if_f c1 h
        refine lv_aload_n hx hb dX8_takeNumber_61 rfl (lv_at hl 0 rfl) ?_
        refine va_get (ci := 8) (v := .ref qt_text) (C := RX8) (T := TX8) (N := 35) hx hb hts hiX8 hown hK hP 0 rfl rfl 19 (by decide) fl47 (fun _ h9 => h9) rfl dX8_takeNumber_62 ?_
        refine lv_aload_n hx hb dX8_takeNumber_65 rfl (lv_at hl 0 rfl) ?_
        refine va_get (ci := 8) (v := .int it_at) (C := RX8) (T := TX8) (N := 35) hx hb hts hiX8 hown hK hP 0 rfl rfl 21 (by decide) fl88 (fun _ h9 => h9) rfl dX8_takeNumber_66 ?_
        replace h := ck_el h
        obtain ⟨hi2, h⟩ := h
        refine va_iald hx hb hK hP 1 0 rfl rfl hi2 dX8_takeNumber_69 ?_
        refine lv_i2l (v := Int32.toInt64 (ft_text (Int32.toNatClampNeg it_at))) hx hb dX8_takeNumber_70 rfl ?_
        refine lv_ldc2 (v := 48) hx hb hown cn108 dX8_takeNumber_71 ?_
        refine lv_ldc2 (v := 57) hx hb hown cn110 dX8_takeNumber_74 ?_
        replace h := bd_el h
        obtain ⟨r3, hc4, h⟩ := h
        refine callSI (rest := []) ⟨hx, hb, hml, hown, hts⟩ (ctX8_in l D cI cZ cB cS kK kV _ (Int32.toInt64 (ft_text (Int32.toNatClampNeg it_at))) 48 57 N r3 hc4) (va_cwS 3 hts gX8_takeNumber_X8_in rfl rfl rfl hdX8_in ⟨Nat.le_of_ble_eq_true rfl, Nat.le_of_ble_eq_true rfl⟩) hK hN hX hP (dF hD rfl) hS hA [] mcN (by decide +kernel) [(qt, .inr (8, [.ref qt_w, .ref qt_isKept, .ref qt_value, .ref qt_weight, .ref qt_newTube, .ref qt_newPrice, .ref qt_newLow, .ref qt_newHigh, .ref qt_newGoods, .ref qt_rhythm, .ref qt_rhythmLong, .ref qt_slug, .int it_kinds, .int it_columns, .int it_slugs, .int it_newKinds, .int it_newColumns, .int it_newSlugs, .int it_rhythmTold, .ref qt_text, .int it_textSize, .int it_at, .int it_first, .int it_length, .int it_faultOf, .int it_fault, .ref qt_of, .ref qt_buyerColumn, .ref qt_buyerKind, .ref qt_buyerCoins, .int it_buyerMany, .ref qt_tryRow, .ref qt_tryLong, .ref qt_tryFree, .int it_tryMany])), (qt_text, .inl (cI, 400, .inl ft_text))] [0, 1] mcN ((mcC rfl (mcC rfl mcN)).trans (mcC rfl (mcC rfl mcN)).symm) 2 rfl (by decide +kernel) rfl hl.1 rfl (Nat.le_of_ble_eq_true rfl) ⟨Nat.zero_le _, Nat.zero_le _⟩ dX8_takeNumber_77 (fun H locs hP hS => ?_)
        refine lv_if_eq (tgt := 128) hx hb dX8_takeNumber_80 (by decide) (fun c5 => ?_) (fun c5 => ?_)
        · replace h := if_t c5 h
          exact K x4 it_at (Option.some.inj h) _ _ _ hP hS (lv_sub hl [0, 1, 2, 3] rfl)
        · replace h := if_f c5 h
          refine lv_iload hx hb dX8_takeNumber_83 (lv_at hl 3 rfl) ?_
          refine lv_ldc (v := 99999) hx hb hown cn116 dX8_takeNumber_85 ?_
          refine lv_icmp_le (tgt := 95) hx hb dX8_takeNumber_87 (by decide) (fun c6 => ?_) (fun c6 => ?_)
          · replace h := if_t c6 h
            refine lv_bipush (v := 10) hx hb dX8_takeNumber_95 (by decide) ?_
            refine lv_iload hx hb dX8_takeNumber_97 (lv_at hl 3 rfl) ?_
            refine lv_imul hx hb dX8_takeNumber_99 ?_
            refine lv_aload_n hx hb dX8_takeNumber_100 rfl (lv_at hl 0 rfl) ?_
            refine va_get (ci := 8) (v := .ref qt_text) (C := RX8) (T := TX8) (N := 35) hx hb hts hiX8 hown hK hP 0 rfl rfl 19 (by decide) fl47 (fun _ h9 => h9) rfl dX8_takeNumber_101 ?_
            refine lv_aload_n hx hb dX8_takeNumber_104 rfl (lv_at hl 0 rfl) ?_
            refine va_get (ci := 8) (v := .int it_at) (C := RX8) (T := TX8) (N := 35) hx hb hts hiX8 hown hK hP 0 rfl rfl 21 (by decide) fl88 (fun _ h9 => h9) rfl dX8_takeNumber_105 ?_
            refine va_iald hx hb hK hP 1 0 rfl rfl hi2 dX8_takeNumber_108 ?_
            refine lv_iadd hx hb dX8_takeNumber_109 ?_
            refine lv_bipush (v := 48) hx hb dX8_takeNumber_110 (by decide) ?_
            refine lv_isub hx hb dX8_takeNumber_112 ?_
            refine lv_topi (fun n7 en7 => ?_)
            replace h := lt_at en7 h
            refine lv_istore (lv' := [(4, .int n7), (0, .ref qt), (1, .int x1), (2, .int x2)]) hx hb dX8_takeNumber_113 hl (by decide) rfl (fun ls hl => ?_)
            refine lv_aload_n hx hb dX8_takeNumber_115 rfl (lv_at hl 1 rfl) ?_
            refine lv_dup hx hb dX8_takeNumber_116 rfl ?_
            refine va_get (ci := 8) (v := .int it_at) (C := RX8) (T := TX8) (N := 35) hx hb hts hiX8 hown hK hP 0 rfl rfl 21 (by decide) fl88 (fun _ h9 => h9) rfl dX8_takeNumber_117 ?_
            refine lv_iconst (v := 1) hx hb dX8_takeNumber_120 (by decide) ?_
            refine lv_iadd hx hb dX8_takeNumber_121 ?_
            refine lv_topi (fun n8 en8 => ?_)
            replace h := lt_at en8 h
            refine va_put (ci := 8) (v := .int n8) (ty := .int) (C := RX8) (T := TX8) (N := 35) hx hb hts hiX8 tyX8 tyX8_ok nmX8 hown hK hP (dF hD rfl) hS 0 rfl rfl 21 (by decide) fl88 (fun _ h9 => h9) rfl (by decide +kernel) rfl rfl (Nat.le_of_ble_eq_true rfl) dX8_takeNumber_122 (fun H locs hP _ hS => ?_)
            replace hP : va_P D vwCl [(qt, .inr (8, [.ref qt_w, .ref qt_isKept, .ref qt_value, .ref qt_weight, .ref qt_newTube, .ref qt_newPrice, .ref qt_newLow, .ref qt_newHigh, .ref qt_newGoods, .ref qt_rhythm, .ref qt_rhythmLong, .ref qt_slug, .int it_kinds, .int it_columns, .int it_slugs, .int it_newKinds, .int it_newColumns, .int it_newSlugs, .int it_rhythmTold, .ref qt_text, .int it_textSize, .int n8, .int it_first, .int it_length, .int it_faultOf, .int it_fault, .ref qt_of, .ref qt_buyerColumn, .ref qt_buyerKind, .ref qt_buyerCoins, .int it_buyerMany, .ref qt_tryRow, .ref qt_tryLong, .ref qt_tryFree, .int it_tryMany])), (qt_text, .inl (cI, 400, .inl ft_text))] H := hP
            refine lv_goto (tgt := 50) hx hb dX8_takeNumber_125 (by decide) ?_
            exact ih x1 x2 n7 n8 it_first it_faultOf it_fault _ _ _ o h hP hS (lv_sub hl [1, 2, 3, 0] rfl) K
          · replace h := if_f c6 h
            refine lv_iload hx hb dX8_takeNumber_90 (lv_at hl 3 rfl) ?_
            refine lv_goto (tgt := 113) hx hb dX8_takeNumber_92 (by decide) ?_
            refine lv_istore (lv' := [(4, .int x4), (0, .ref qt), (1, .int x1), (2, .int x2)]) hx hb dX8_takeNumber_113 hl (by decide) rfl (fun ls hl => ?_)
            refine lv_aload_n hx hb dX8_takeNumber_115 rfl (lv_at hl 1 rfl) ?_
            refine lv_dup hx hb dX8_takeNumber_116 rfl ?_
            refine va_get (ci := 8) (v := .int it_at) (C := RX8) (T := TX8) (N := 35) hx hb hts hiX8 hown hK hP 0 rfl rfl 21 (by decide) fl88 (fun _ h9 => h9) rfl dX8_takeNumber_117 ?_
            refine lv_iconst (v := 1) hx hb dX8_takeNumber_120 (by decide) ?_
            refine lv_iadd hx hb dX8_takeNumber_121 ?_
            refine lv_topi (fun n9 en9 => ?_)
            replace h := lt_at en9 h
            refine va_put (ci := 8) (v := .int n9) (ty := .int) (C := RX8) (T := TX8) (N := 35) hx hb hts hiX8 tyX8 tyX8_ok nmX8 hown hK hP (dF hD rfl) hS 0 rfl rfl 21 (by decide) fl88 (fun _ h9 => h9) rfl (by decide +kernel) rfl rfl (Nat.le_of_ble_eq_true rfl) dX8_takeNumber_122 (fun H locs hP _ hS => ?_)
            replace hP : va_P D vwCl [(qt, .inr (8, [.ref qt_w, .ref qt_isKept, .ref qt_value, .ref qt_weight, .ref qt_newTube, .ref qt_newPrice, .ref qt_newLow, .ref qt_newHigh, .ref qt_newGoods, .ref qt_rhythm, .ref qt_rhythmLong, .ref qt_slug, .int it_kinds, .int it_columns, .int it_slugs, .int it_newKinds, .int it_newColumns, .int it_newSlugs, .int it_rhythmTold, .ref qt_text, .int it_textSize, .int n9, .int it_first, .int it_length, .int it_faultOf, .int it_fault, .ref qt_of, .ref qt_buyerColumn, .ref qt_buyerKind, .ref qt_buyerCoins, .int it_buyerMany, .ref qt_tryRow, .ref qt_tryLong, .ref qt_tryFree, .int it_tryMany])), (qt_text, .inl (cI, 400, .inl ft_text))] H := hP
            refine lv_goto (tgt := 50) hx hb dX8_takeNumber_125 (by decide) ?_
            exact ih x1 x2 x4 n9 it_first it_faultOf it_fault _ _ _ o h hP hS (lv_sub hl [1, 2, 3, 0] rfl) K
  unfold fX8_takeNumber at h
  refine lv_aload_n hx hb dX8_takeNumber_0 rfl (lv_at hl 0 rfl) ?_
  refine va_get (ci := 8) (v := .int it_faultOf) (C := RX8) (T := TX8) (N := 35) hx hb hts hiX8 hown hK hP 0 rfl rfl 24 (by decide) fl91 (fun _ h9 => h9) rfl dX8_takeNumber_1 ?_
  refine lv_if_le (tgt := 9) hx hb dX8_takeNumber_4 (by decide) (fun c10 => ?_) (fun c10 => ?_)
  · replace h := if_t c10 h
    refine lv_aload_n hx hb dX8_takeNumber_9 rfl (lv_at hl 0 rfl) ?_
    replace h := bd_el h
    obtain ⟨⟨r11, g12⟩, hc13, h⟩ := h
    refine callVI (rest := []) ⟨hx, hb, hml, hown, hts⟩ (ctX8_here l D cI cZ cB cS kK kV _ qt qt_w qt_isKept qt_value qt_weight qt_newTube qt_newPrice qt_newLow qt_newHigh qt_newGoods qt_rhythm qt_rhythmLong qt_slug qt_text qt_of qt_buyerColumn qt_buyerKind qt_buyerCoins qt_tryRow qt_tryLong qt_tryFree it_kinds it_columns it_slugs it_newKinds it_newColumns it_newSlugs it_rhythmTold it_textSize it_at it_first it_length it_faultOf it_fault it_buyerMany it_tryMany ft_text N r11 g12 hc13) (cwV 0 hts gX8_takeNumber_X8_here rfl rfl rfl hdX8_here ⟨Nat.le_of_ble_eq_true rfl, Nat.le_of_ble_eq_true rfl⟩) hK hN hX hP (dF hD rfl) hS hA [0, 1] (mcC rfl (mcC rfl mcN)) (by decide +kernel) [(qt, .inr (8, [.ref qt_w, .ref qt_isKept, .ref qt_value, .ref qt_weight, .ref qt_newTube, .ref qt_newPrice, .ref qt_newLow, .ref qt_newHigh, .ref qt_newGoods, .ref qt_rhythm, .ref qt_rhythmLong, .ref qt_slug, .int it_kinds, .int it_columns, .int it_slugs, .int it_newKinds, .int it_newColumns, .int it_newSlugs, .int it_rhythmTold, .ref qt_text, .int it_textSize, .int g12, .int it_first, .int it_length, .int it_faultOf, .int it_fault, .ref qt_of, .ref qt_buyerColumn, .ref qt_buyerKind, .ref qt_buyerCoins, .int it_buyerMany, .ref qt_tryRow, .ref qt_tryLong, .ref qt_tryFree, .int it_tryMany])), (qt_text, .inl (cI, 400, .inl ft_text))] [] (mcC rfl (mcC rfl mcN)) (mcN.trans mcN.symm) 2 rfl (by decide +kernel) (va_recv hK hP (ci := 8) (q0 := 0) rfl rfl) rfl hl.1 rfl (Nat.le_of_ble_eq_true rfl) ⟨Nat.zero_le _, Nat.zero_le _⟩ dX8_takeNumber_10 (fun H locs hP hS => ?_)
    refine lv_istore_n (lv' := [(3, .int r11), (0, .ref qt), (1, .int x1), (2, .int x2)]) hx hb dX8_takeNumber_13 rfl hl (by decide) rfl (fun ls hl => ?_)
    refine lv_aload_n hx hb dX8_takeNumber_14 rfl (lv_at hl 1 rfl) ?_
    refine lv_aload_n hx hb dX8_takeNumber_15 rfl (lv_at hl 1 rfl) ?_
    refine va_get (ci := 8) (v := .int g12) (C := RX8) (T := TX8) (N := 35) hx hb hts hiX8 hown hK hP 0 rfl rfl 21 (by decide) fl88 (fun _ h9 => h9) rfl dX8_takeNumber_16 ?_
    refine va_put (ci := 8) (v := .int g12) (ty := .int) (C := RX8) (T := TX8) (N := 35) hx hb hts hiX8 tyX8 tyX8_ok nmX8 hown hK hP (dF hD rfl) hS 0 rfl rfl 22 (by decide) fl98 (fun _ h9 => h9) rfl (by decide +kernel) rfl rfl (Nat.le_of_ble_eq_true rfl) dX8_takeNumber_19 (fun H locs hP _ hS => ?_)
    replace hP : va_P D vwCl [(qt, .inr (8, [.ref qt_w, .ref qt_isKept, .ref qt_value, .ref qt_weight, .ref qt_newTube, .ref qt_newPrice, .ref qt_newLow, .ref qt_newHigh, .ref qt_newGoods, .ref qt_rhythm, .ref qt_rhythmLong, .ref qt_slug, .int it_kinds, .int it_columns, .int it_slugs, .int it_newKinds, .int it_newColumns, .int it_newSlugs, .int it_rhythmTold, .ref qt_text, .int it_textSize, .int g12, .int g12, .int it_length, .int it_faultOf, .int it_fault, .ref qt_of, .ref qt_buyerColumn, .ref qt_buyerKind, .ref qt_buyerCoins, .int it_buyerMany, .ref qt_tryRow, .ref qt_tryLong, .ref qt_tryFree, .int it_tryMany])), (qt_text, .inl (cI, 400, .inl ft_text))] H := hP
    refine lv_aload_n hx hb dX8_takeNumber_22 rfl (lv_at hl 1 rfl) ?_
    refine lv_iload_n hx hb dX8_takeNumber_23 rfl (lv_at hl 0 rfl) ?_
    refine lv_i2l (v := Int32.toInt64 r11) hx hb dX8_takeNumber_24 rfl ?_
    refine lv_ldc2 (v := 48) hx hb hown cn108 dX8_takeNumber_25 ?_
    refine lv_ldc2 (v := 57) hx hb hown cn110 dX8_takeNumber_28 ?_
    replace h := bd_el h
    obtain ⟨r14, hc15, h⟩ := h
    refine callSI (rest := [.ref qt]) ⟨hx, hb, hml, hown, hts⟩ (ctX8_in l D cI cZ cB cS kK kV _ (Int32.toInt64 r11) 48 57 N r14 hc15) (va_cwS 3 hts gX8_takeNumber_X8_in rfl rfl rfl hdX8_in ⟨Nat.le_of_ble_eq_true rfl, Nat.le_of_ble_eq_true rfl⟩) hK hN hX hP (dF hD rfl) hS hA [] mcN (by decide +kernel) [(qt, .inr (8, [.ref qt_w, .ref qt_isKept, .ref qt_value, .ref qt_weight, .ref qt_newTube, .ref qt_newPrice, .ref qt_newLow, .ref qt_newHigh, .ref qt_newGoods, .ref qt_rhythm, .ref qt_rhythmLong, .ref qt_slug, .int it_kinds, .int it_columns, .int it_slugs, .int it_newKinds, .int it_newColumns, .int it_newSlugs, .int it_rhythmTold, .ref qt_text, .int it_textSize, .int g12, .int g12, .int it_length, .int it_faultOf, .int it_fault, .ref qt_of, .ref qt_buyerColumn, .ref qt_buyerKind, .ref qt_buyerCoins, .int it_buyerMany, .ref qt_tryRow, .ref qt_tryLong, .ref qt_tryFree, .int it_tryMany])), (qt_text, .inl (cI, 400, .inl ft_text))] [0, 1] mcN ((mcC rfl (mcC rfl mcN)).trans (mcC rfl (mcC rfl mcN)).symm) 2 rfl (by decide +kernel) rfl hl.1 rfl (Nat.le_of_ble_eq_true rfl) ⟨Nat.zero_le _, Nat.zero_le _⟩ dX8_takeNumber_31 (fun H locs hP hS => ?_)
    refine lv_iconst (v := 1) hx hb dX8_takeNumber_34 (by decide) ?_
    refine lv_aload_n hx hb dX8_takeNumber_35 rfl (lv_at hl 1 rfl) ?_
    refine va_get (ci := 8) (v := .int g12) (C := RX8) (T := TX8) (N := 35) hx hb hts hiX8 hown hK hP 0 rfl rfl 21 (by decide) fl88 (fun _ h9 => h9) rfl dX8_takeNumber_36 ?_
    replace h := bd_el h
    obtain ⟨⟨r16, g17, g18⟩, hc19, h⟩ := h
    refine callVI (rest := []) ⟨hx, hb, hml, hown, hts⟩ (ctX8_want l D cI cZ cB cS kK kV _ qt qt_w qt_isKept qt_value qt_weight qt_newTube qt_newPrice qt_newLow qt_newHigh qt_newGoods qt_rhythm qt_rhythmLong qt_slug qt_text qt_of qt_buyerColumn qt_buyerKind qt_buyerCoins qt_tryRow qt_tryLong qt_tryFree it_kinds it_columns it_slugs it_newKinds it_newColumns it_newSlugs it_rhythmTold it_textSize g12 g12 it_length it_faultOf it_fault it_buyerMany it_tryMany r14 1 g12 N r16 g17 g18 hc19) (cwV 3 hts gX8_takeNumber_X8_want rfl rfl rfl hdX8_want ⟨Nat.le_of_ble_eq_true rfl, Nat.le_of_ble_eq_true rfl⟩) hK hN hX hP (dF hD rfl) hS hA [0] (mcC rfl mcN) (by decide +kernel) [(qt, .inr (8, [.ref qt_w, .ref qt_isKept, .ref qt_value, .ref qt_weight, .ref qt_newTube, .ref qt_newPrice, .ref qt_newLow, .ref qt_newHigh, .ref qt_newGoods, .ref qt_rhythm, .ref qt_rhythmLong, .ref qt_slug, .int it_kinds, .int it_columns, .int it_slugs, .int it_newKinds, .int it_newColumns, .int it_newSlugs, .int it_rhythmTold, .ref qt_text, .int it_textSize, .int g12, .int g12, .int it_length, .int g17, .int g18, .ref qt_of, .ref qt_buyerColumn, .ref qt_buyerKind, .ref qt_buyerCoins, .int it_buyerMany, .ref qt_tryRow, .ref qt_tryLong, .ref qt_tryFree, .int it_tryMany])), (qt_text, .inl (cI, 400, .inl ft_text))] [1] (mcC rfl mcN) ((mcC rfl mcN).trans (mcC rfl mcN).symm) 2 rfl (by decide +kernel) (va_recv hK hP (ci := 8) (q0 := 0) rfl rfl) rfl hl.1 rfl (Nat.le_of_ble_eq_true rfl) ⟨Nat.zero_le _, Nat.zero_le _⟩ dX8_takeNumber_39 (fun H locs hP hS => ?_)
    refine lv_if_ne (tgt := 47) hx hb dX8_takeNumber_42 (by decide) (fun c20 => ?_) (fun c20 => ?_)
    · replace h := if_f c20 h
      refine lv_iconst (v := 0) hx hb dX8_takeNumber_47 (by decide) ?_
      refine lv_istore (lv' := [(4, .int 0), (3, .int r11), (0, .ref qt), (1, .int x1), (2, .int x2)]) hx hb dX8_takeNumber_48 hl (by decide) rfl (fun ls hl => ?_)
      replace h := bd_el h
      obtain ⟨o21, ho21, h⟩ := h
      refine lp50 N x1 x2 0 g12 g12 g17 g18 _ _ _ o21 ho21 hP hS (lv_sub hl [2, 3, 4, 0] rfl) (fun n22 g23 eo H locs ls hP hS hl => ?_)
      subst eo
      refine lv_aload_n hx hb dX8_takeNumber_128 rfl (lv_at hl 0 rfl) ?_
      refine lv_aload_n hx hb dX8_takeNumber_129 rfl (lv_at hl 0 rfl) ?_
      refine va_get (ci := 8) (v := .int g23) (C := RX8) (T := TX8) (N := 35) hx hb hts hiX8 hown hK hP 0 rfl rfl 21 (by decide) fl88 (fun _ h9 => h9) rfl dX8_takeNumber_130 ?_
      refine lv_aload_n hx hb dX8_takeNumber_133 rfl (lv_at hl 0 rfl) ?_
      refine va_get (ci := 8) (v := .int g12) (C := RX8) (T := TX8) (N := 35) hx hb hts hiX8 hown hK hP 0 rfl rfl 22 (by decide) fl98 (fun _ h9 => h9) rfl dX8_takeNumber_134 ?_
      refine lv_isub hx hb dX8_takeNumber_137 ?_
      refine lv_iconst (v := 4) hx hb dX8_takeNumber_138 (by decide) ?_
      refine lv_icmp_ge (tgt := 159) hx hb dX8_takeNumber_139 (by decide) (fun c24 => ?_) (fun c24 => ?_)
      · replace h := if_t c24 h
        refine lv_iconst (v := 0) hx hb dX8_takeNumber_159 (by decide) ?_
        refine lv_iconst (v := 2) hx hb dX8_takeNumber_160 (by decide) ?_
        refine lv_aload_n hx hb dX8_takeNumber_161 rfl (lv_at hl 0 rfl) ?_
        refine va_get (ci := 8) (v := .int g12) (C := RX8) (T := TX8) (N := 35) hx hb hts hiX8 hown hK hP 0 rfl rfl 22 (by decide) fl98 (fun _ h9 => h9) rfl dX8_takeNumber_162 ?_
        replace h := bd_el h
        obtain ⟨⟨r25, g26, g27⟩, hc28, h⟩ := h
        refine callVI (rest := []) ⟨hx, hb, hml, hown, hts⟩ (ctX8_want l D cI cZ cB cS kK kV _ qt qt_w qt_isKept qt_value qt_weight qt_newTube qt_newPrice qt_newLow qt_newHigh qt_newGoods qt_rhythm qt_rhythmLong qt_slug qt_text qt_of qt_buyerColumn qt_buyerKind qt_buyerCoins qt_tryRow qt_tryLong qt_tryFree it_kinds it_columns it_slugs it_newKinds it_newColumns it_newSlugs it_rhythmTold it_textSize g23 g12 it_length g17 g18 it_buyerMany it_tryMany 0 2 g12 N r25 g26 g27 hc28) (cwV 3 hts gX8_takeNumber_X8_want rfl rfl rfl hdX8_want ⟨Nat.le_of_ble_eq_true rfl, Nat.le_of_ble_eq_true rfl⟩) hK hN hX hP (dF hD rfl) hS hA [0] (mcC rfl mcN) (by decide +kernel) [(qt, .inr (8, [.ref qt_w, .ref qt_isKept, .ref qt_value, .ref qt_weight, .ref qt_newTube, .ref qt_newPrice, .ref qt_newLow, .ref qt_newHigh, .ref qt_newGoods, .ref qt_rhythm, .ref qt_rhythmLong, .ref qt_slug, .int it_kinds, .int it_columns, .int it_slugs, .int it_newKinds, .int it_newColumns, .int it_newSlugs, .int it_rhythmTold, .ref qt_text, .int it_textSize, .int g23, .int g12, .int it_length, .int g26, .int g27, .ref qt_of, .ref qt_buyerColumn, .ref qt_buyerKind, .ref qt_buyerCoins, .int it_buyerMany, .ref qt_tryRow, .ref qt_tryLong, .ref qt_tryFree, .int it_tryMany])), (qt_text, .inl (cI, 400, .inl ft_text))] [1] (mcC rfl mcN) ((mcC rfl mcN).trans (mcC rfl mcN).symm) 2 rfl (by decide +kernel) (va_recv hK hP (ci := 8) (q0 := 0) rfl rfl) rfl hl.1 rfl (Nat.le_of_ble_eq_true rfl) ⟨Nat.zero_le _, Nat.zero_le _⟩ dX8_takeNumber_165 (fun H locs hP hS => ?_)
        refine lv_istore (lv' := [(5, .int r25), (0, .ref qt), (1, .int x1), (2, .int x2), (4, .int n22)]) hx hb dX8_takeNumber_168 hl (by decide) rfl (fun ls hl => ?_)
        refine lv_iload hx hb dX8_takeNumber_170 (lv_at hl 4 rfl) ?_
        simp only [Option.some.injEq, Prod.mk.injEq] at h
        obtain ⟨rfl, rfl, rfl, rfl, rfl⟩ := h
        exact hret _ _ _ _ hP hS rfl dX8_takeNumber_172
      · replace h := if_f c24 h
        refine lv_iload hx hb dX8_takeNumber_142 (lv_at hl 3 rfl) ?_
        refine lv_i2l (v := Int32.toInt64 n22) hx hb dX8_takeNumber_144 rfl ?_
        refine lv_iload_n hx hb dX8_takeNumber_145 rfl (lv_at hl 1 rfl) ?_
        refine lv_i2l (v := Int32.toInt64 x1) hx hb dX8_takeNumber_146 rfl ?_
        refine lv_iload_n hx hb dX8_takeNumber_147 rfl (lv_at hl 2 rfl) ?_
        refine lv_i2l (v := Int32.toInt64 x2) hx hb dX8_takeNumber_148 rfl ?_
        replace h := bd_el h
        obtain ⟨r29, hc30, h⟩ := h
        refine callSI (rest := [.ref qt]) ⟨hx, hb, hml, hown, hts⟩ (ctX8_in l D cI cZ cB cS kK kV _ (Int32.toInt64 n22) (Int32.toInt64 x1) (Int32.toInt64 x2) N r29 hc30) (va_cwS 3 hts gX8_takeNumber_X8_in rfl rfl rfl hdX8_in ⟨Nat.le_of_ble_eq_true rfl, Nat.le_of_ble_eq_true rfl⟩) hK hN hX hP (dF hD rfl) hS hA [] mcN (by decide +kernel) [(qt, .inr (8, [.ref qt_w, .ref qt_isKept, .ref qt_value, .ref qt_weight, .ref qt_newTube, .ref qt_newPrice, .ref qt_newLow, .ref qt_newHigh, .ref qt_newGoods, .ref qt_rhythm, .ref qt_rhythmLong, .ref qt_slug, .int it_kinds, .int it_columns, .int it_slugs, .int it_newKinds, .int it_newColumns, .int it_newSlugs, .int it_rhythmTold, .ref qt_text, .int it_textSize, .int g23, .int g12, .int it_length, .int g17, .int g18, .ref qt_of, .ref qt_buyerColumn, .ref qt_buyerKind, .ref qt_buyerCoins, .int it_buyerMany, .ref qt_tryRow, .ref qt_tryLong, .ref qt_tryFree, .int it_tryMany])), (qt_text, .inl (cI, 400, .inl ft_text))] [0, 1] mcN ((mcC rfl (mcC rfl mcN)).trans (mcC rfl (mcC rfl mcN)).symm) 2 rfl (by decide +kernel) rfl hl.1 rfl (Nat.le_of_ble_eq_true rfl) ⟨Nat.zero_le _, Nat.zero_le _⟩ dX8_takeNumber_149 (fun H locs hP hS => ?_)
        refine lv_if_eq (tgt := 159) hx hb dX8_takeNumber_152 (by decide) (fun c31 => ?_) (fun c31 => ?_)
        · replace h := if_t c31 h
          refine lv_iconst (v := 0) hx hb dX8_takeNumber_159 (by decide) ?_
          refine lv_iconst (v := 2) hx hb dX8_takeNumber_160 (by decide) ?_
          refine lv_aload_n hx hb dX8_takeNumber_161 rfl (lv_at hl 0 rfl) ?_
          refine va_get (ci := 8) (v := .int g12) (C := RX8) (T := TX8) (N := 35) hx hb hts hiX8 hown hK hP 0 rfl rfl 22 (by decide) fl98 (fun _ h9 => h9) rfl dX8_takeNumber_162 ?_
          replace h := bd_el h
          obtain ⟨⟨r32, g33, g34⟩, hc35, h⟩ := h
          refine callVI (rest := []) ⟨hx, hb, hml, hown, hts⟩ (ctX8_want l D cI cZ cB cS kK kV _ qt qt_w qt_isKept qt_value qt_weight qt_newTube qt_newPrice qt_newLow qt_newHigh qt_newGoods qt_rhythm qt_rhythmLong qt_slug qt_text qt_of qt_buyerColumn qt_buyerKind qt_buyerCoins qt_tryRow qt_tryLong qt_tryFree it_kinds it_columns it_slugs it_newKinds it_newColumns it_newSlugs it_rhythmTold it_textSize g23 g12 it_length g17 g18 it_buyerMany it_tryMany 0 2 g12 N r32 g33 g34 hc35) (cwV 3 hts gX8_takeNumber_X8_want rfl rfl rfl hdX8_want ⟨Nat.le_of_ble_eq_true rfl, Nat.le_of_ble_eq_true rfl⟩) hK hN hX hP (dF hD rfl) hS hA [0] (mcC rfl mcN) (by decide +kernel) [(qt, .inr (8, [.ref qt_w, .ref qt_isKept, .ref qt_value, .ref qt_weight, .ref qt_newTube, .ref qt_newPrice, .ref qt_newLow, .ref qt_newHigh, .ref qt_newGoods, .ref qt_rhythm, .ref qt_rhythmLong, .ref qt_slug, .int it_kinds, .int it_columns, .int it_slugs, .int it_newKinds, .int it_newColumns, .int it_newSlugs, .int it_rhythmTold, .ref qt_text, .int it_textSize, .int g23, .int g12, .int it_length, .int g33, .int g34, .ref qt_of, .ref qt_buyerColumn, .ref qt_buyerKind, .ref qt_buyerCoins, .int it_buyerMany, .ref qt_tryRow, .ref qt_tryLong, .ref qt_tryFree, .int it_tryMany])), (qt_text, .inl (cI, 400, .inl ft_text))] [1] (mcC rfl mcN) ((mcC rfl mcN).trans (mcC rfl mcN).symm) 2 rfl (by decide +kernel) (va_recv hK hP (ci := 8) (q0 := 0) rfl rfl) rfl hl.1 rfl (Nat.le_of_ble_eq_true rfl) ⟨Nat.zero_le _, Nat.zero_le _⟩ dX8_takeNumber_165 (fun H locs hP hS => ?_)
          refine lv_istore (lv' := [(5, .int r32), (0, .ref qt), (1, .int x1), (2, .int x2), (4, .int n22)]) hx hb dX8_takeNumber_168 hl (by decide) rfl (fun ls hl => ?_)
          refine lv_iload hx hb dX8_takeNumber_170 (lv_at hl 4 rfl) ?_
          simp only [Option.some.injEq, Prod.mk.injEq] at h
          obtain ⟨rfl, rfl, rfl, rfl, rfl⟩ := h
          exact hret _ _ _ _ hP hS rfl dX8_takeNumber_172
        · replace h := if_f c31 h
          refine lv_iconst (v := 1) hx hb dX8_takeNumber_155 (by decide) ?_
          refine lv_goto (tgt := 160) hx hb dX8_takeNumber_156 (by decide) ?_
          refine lv_iconst (v := 2) hx hb dX8_takeNumber_160 (by decide) ?_
          refine lv_aload_n hx hb dX8_takeNumber_161 rfl (lv_at hl 0 rfl) ?_
          refine va_get (ci := 8) (v := .int g12) (C := RX8) (T := TX8) (N := 35) hx hb hts hiX8 hown hK hP 0 rfl rfl 22 (by decide) fl98 (fun _ h9 => h9) rfl dX8_takeNumber_162 ?_
          replace h := bd_el h
          obtain ⟨⟨r36, g37, g38⟩, hc39, h⟩ := h
          refine callVI (rest := []) ⟨hx, hb, hml, hown, hts⟩ (ctX8_want l D cI cZ cB cS kK kV _ qt qt_w qt_isKept qt_value qt_weight qt_newTube qt_newPrice qt_newLow qt_newHigh qt_newGoods qt_rhythm qt_rhythmLong qt_slug qt_text qt_of qt_buyerColumn qt_buyerKind qt_buyerCoins qt_tryRow qt_tryLong qt_tryFree it_kinds it_columns it_slugs it_newKinds it_newColumns it_newSlugs it_rhythmTold it_textSize g23 g12 it_length g17 g18 it_buyerMany it_tryMany 1 2 g12 N r36 g37 g38 hc39) (cwV 3 hts gX8_takeNumber_X8_want rfl rfl rfl hdX8_want ⟨Nat.le_of_ble_eq_true rfl, Nat.le_of_ble_eq_true rfl⟩) hK hN hX hP (dF hD rfl) hS hA [0] (mcC rfl mcN) (by decide +kernel) [(qt, .inr (8, [.ref qt_w, .ref qt_isKept, .ref qt_value, .ref qt_weight, .ref qt_newTube, .ref qt_newPrice, .ref qt_newLow, .ref qt_newHigh, .ref qt_newGoods, .ref qt_rhythm, .ref qt_rhythmLong, .ref qt_slug, .int it_kinds, .int it_columns, .int it_slugs, .int it_newKinds, .int it_newColumns, .int it_newSlugs, .int it_rhythmTold, .ref qt_text, .int it_textSize, .int g23, .int g12, .int it_length, .int g37, .int g38, .ref qt_of, .ref qt_buyerColumn, .ref qt_buyerKind, .ref qt_buyerCoins, .int it_buyerMany, .ref qt_tryRow, .ref qt_tryLong, .ref qt_tryFree, .int it_tryMany])), (qt_text, .inl (cI, 400, .inl ft_text))] [1] (mcC rfl mcN) ((mcC rfl mcN).trans (mcC rfl mcN).symm) 2 rfl (by decide +kernel) (va_recv hK hP (ci := 8) (q0 := 0) rfl rfl) rfl hl.1 rfl (Nat.le_of_ble_eq_true rfl) ⟨Nat.zero_le _, Nat.zero_le _⟩ dX8_takeNumber_165 (fun H locs hP hS => ?_)
          refine lv_istore (lv' := [(5, .int r36), (0, .ref qt), (1, .int x1), (2, .int x2), (4, .int n22)]) hx hb dX8_takeNumber_168 hl (by decide) rfl (fun ls hl => ?_)
          refine lv_iload hx hb dX8_takeNumber_170 (lv_at hl 4 rfl) ?_
          simp only [Option.some.injEq, Prod.mk.injEq] at h
          obtain ⟨rfl, rfl, rfl, rfl, rfl⟩ := h
          exact hret _ _ _ _ hP hS rfl dX8_takeNumber_172
    · replace h := if_t c20 h
      refine lv_iconst (v := 0) hx hb dX8_takeNumber_45 (by decide) ?_
      simp only [Option.some.injEq, Prod.mk.injEq] at h
      obtain ⟨rfl, rfl, rfl, rfl, rfl⟩ := h
      exact hret _ _ _ _ hP hS rfl dX8_takeNumber_46
  · replace h := if_f c10 h
    refine lv_iconst (v := 0) hx hb dX8_takeNumber_7 (by decide) ?_
    simp only [Option.some.injEq, Prod.mk.injEq] at h
    obtain ⟨rfl, rfl, rfl, rfl, rfl⟩ := h
    exact hret _ _ _ _ hP hS rfl dX8_takeNumber_8
theorem hdX8_takeNumber : yX8_takeNumber.cls = RX8 ∧ yX8_takeNumber.cls ≠ "java/lang/invoke/MethodHandle" ∧ yX8_takeNumber.cls ≠ "java/lang/invoke/VarHandle" ∧ (parseMethodDescriptor yX8_takeNumber.desc).map (fun d => d.parameters.length) = some 2 := by decide +kernel

noncomputable def fX8_takeCoin (N : Nat) (it_newKinds : Int32) (it_textSize : Int32) (it_at : Int32) (it_first : Int32) (it_faultOf : Int32) (it_fault : Int32) (ft_value : Nat → Int32) (ft_text : Nat → Int32) (ft_weight : Nat → Int32) (ft_newTube : Nat → Int32) : Option (Int32 × Int32 × Int32 × Int32 × Int32 × (Nat → Int32) × (Nat → Int32) × (Nat → Int32)) := lt (5 + it_newKinds) fun n1 => bd (fX8_takeNumber N it_textSize it_at it_first it_faultOf it_fault ft_text 1 99) fun (r2, g3, g4, g5, g6) => ck n1 10 (bd (fX8_takeNumber N it_textSize g3 g4 g5 g6 ft_text 10 99) fun (r9, g10, g11, g12, g13) => bd (fX8_takeNumber N it_textSize g10 g11 g12 g13 ft_text 0 60) fun (r15, g16, g17, g18, g19) => lt (it_newKinds + 1) fun n21 => some (n21, g16, g17, g18, g19, upd ft_value (Int32.toNatClampNeg n1) r2, upd ft_weight (Int32.toNatClampNeg n1) r9, upd ft_newTube (Int32.toNatClampNeg n1) r15))
set_option maxHeartbeats 4000000 in
set_option maxRecDepth 100000 in
theorem ctX8_takeCoin (l : Launch) (D : va_G) (cI cZ cB cS : ClassId) (kK kV : Nat → Nat) (sz : Nat) (qt qt_w qt_isKept qt_value qt_weight qt_newTube qt_newPrice qt_newLow qt_newHigh qt_newGoods qt_rhythm qt_rhythmLong qt_slug qt_text qt_of qt_buyerColumn qt_buyerKind qt_buyerCoins qt_tryRow qt_tryLong qt_tryFree : Nat) (it_kinds : Int32) (it_columns : Int32) (it_slugs : Int32) (it_newKinds : Int32) (it_newColumns : Int32) (it_newSlugs : Int32) (it_rhythmTold : Int32) (it_textSize : Int32) (it_at : Int32) (it_first : Int32) (it_length : Int32) (it_faultOf : Int32) (it_fault : Int32) (it_buyerMany : Int32) (it_tryMany : Int32) (ft_value : Nat → Int32) (ft_text : Nat → Int32) (ft_weight : Nat → Int32) (ft_newTube : Nat → Int32)  (N : Nat) (w_it_newKinds : Int32) (w_it_at : Int32) (w_it_first : Int32) (w_it_faultOf : Int32) (w_it_fault : Int32) (w_ft_value : Nat → Int32) (w_ft_weight : Nat → Int32) (w_ft_newTube : Nat → Int32) (h : fX8_takeCoin N it_newKinds it_textSize it_at it_first it_faultOf it_fault ft_value ft_text ft_weight ft_newTube = some (w_it_newKinds, w_it_at, w_it_first, w_it_faultOf, w_it_fault, w_ft_value, w_ft_weight, w_ft_newTube)) : CtV l yX8_takeCoin wsX8_takeCoin { frames := 2, cells := 0, slots := 0, locals := 50 } D (TY cI cZ cB cS) kK kV [.ref qt] [(qt, .inr (8, [.ref qt_w, .ref qt_isKept, .ref qt_value, .ref qt_weight, .ref qt_newTube, .ref qt_newPrice, .ref qt_newLow, .ref qt_newHigh, .ref qt_newGoods, .ref qt_rhythm, .ref qt_rhythmLong, .ref qt_slug, .int it_kinds, .int it_columns, .int it_slugs, .int it_newKinds, .int it_newColumns, .int it_newSlugs, .int it_rhythmTold, .ref qt_text, .int it_textSize, .int it_at, .int it_first, .int it_length, .int it_faultOf, .int it_fault, .ref qt_of, .ref qt_buyerColumn, .ref qt_buyerKind, .ref qt_buyerCoins, .int it_buyerMany, .ref qt_tryRow, .ref qt_tryLong, .ref qt_tryFree, .int it_tryMany])), (qt_value, .inl (cI, 10, .inl ft_value)), (qt_text, .inl (cI, 400, .inl ft_text)), (qt_weight, .inl (cI, 10, .inl ft_weight)), (qt_newTube, .inl (cI, 10, .inl ft_newTube))] [(qt, .inr (8, [.ref qt_w, .ref qt_isKept, .ref qt_value, .ref qt_weight, .ref qt_newTube, .ref qt_newPrice, .ref qt_newLow, .ref qt_newHigh, .ref qt_newGoods, .ref qt_rhythm, .ref qt_rhythmLong, .ref qt_slug, .int it_kinds, .int it_columns, .int it_slugs, .int w_it_newKinds, .int it_newColumns, .int it_newSlugs, .int it_rhythmTold, .ref qt_text, .int it_textSize, .int w_it_at, .int w_it_first, .int it_length, .int w_it_faultOf, .int w_it_fault, .ref qt_of, .ref qt_buyerColumn, .ref qt_buyerKind, .ref qt_buyerCoins, .int it_buyerMany, .ref qt_tryRow, .ref qt_tryLong, .ref qt_tryFree, .int it_tryMany])), (qt_value, .inl (cI, 10, .inl w_ft_value)), (qt_text, .inl (cI, 400, .inl ft_text)), (qt_weight, .inl (cI, 10, .inl w_ft_weight)), (qt_newTube, .inl (cI, 10, .inl w_ft_newTube))] sz := by
  refine mkV (cc := cX8_takeCoin) (maxL := 2) (own := RX8) (by decide) rfl rfl (Nat.le_of_ble_eq_true rfl) ?_
  intro p e s m args below meth c A Z ls hx hb hml hown hts hK hN hX hP hD hA hS hret hl
  have hl : lv_has ls 2 [(0, .ref qt)] := hl
  have fl117 : (Cond.fieldLink RX8 117 "SoupWallModel" "newKinds" "I").before args s = true := hts _ (List.mem_of_getElem? (l := wsX8_takeCoin) (i := 1) rfl)
  have hiX8 : ∀ w ∈ wsX80, w ∈ wsX8_takeCoin := fun w h => List.mem_cons_of_mem _ (List.mem_append_right _ h)
  have fl17 : (Cond.fieldLink RX8 17 "SoupWallModel" "value" "[I").before args s = true := hts _ (List.mem_of_getElem? (l := wsX8_takeCoin) (i := 2) rfl)
  have fl20 : (Cond.fieldLink RX8 20 "SoupWallModel" "weight" "[I").before args s = true := hts _ (List.mem_of_getElem? (l := wsX8_takeCoin) (i := 3) rfl)
  have fl23 : (Cond.fieldLink RX8 23 "SoupWallModel" "newTube" "[I").before args s = true := hts _ (List.mem_of_getElem? (l := wsX8_takeCoin) (i := 4) rfl)
  unfold fX8_takeCoin at h
  refine lv_iconst (v := 5) hx hb dX8_takeCoin_0 (by decide) ?_
  refine lv_aload_n hx hb dX8_takeCoin_1 rfl (lv_at hl 0 rfl) ?_
  refine va_get (ci := 8) (v := .int it_newKinds) (C := RX8) (T := TX8) (N := 35) hx hb hts hiX8 hown hK hP 0 rfl rfl 15 (by decide) fl117 (fun _ h9 => h9) rfl dX8_takeCoin_2 ?_
  refine lv_iadd hx hb dX8_takeCoin_5 ?_
  refine lv_topi (fun n1 en1 => ?_)
  replace h := lt_at en1 h
  refine lv_istore_n (lv' := [(1, .int n1), (0, .ref qt)]) hx hb dX8_takeCoin_6 rfl hl (by decide) rfl (fun ls hl => ?_)
  refine lv_aload_n hx hb dX8_takeCoin_7 rfl (lv_at hl 1 rfl) ?_
  refine va_get (ci := 8) (v := .ref qt_value) (C := RX8) (T := TX8) (N := 35) hx hb hts hiX8 hown hK hP 0 rfl rfl 2 (by decide) fl17 (fun _ h9 => h9) rfl dX8_takeCoin_8 ?_
  refine lv_iload_n hx hb dX8_takeCoin_11 rfl (lv_at hl 0 rfl) ?_
  refine lv_aload_n hx hb dX8_takeCoin_12 rfl (lv_at hl 1 rfl) ?_
  refine lv_iconst (v := 1) hx hb dX8_takeCoin_13 (by decide) ?_
  refine lv_bipush (v := 99) hx hb dX8_takeCoin_14 (by decide) ?_
  replace h := bd_el h
  obtain ⟨⟨r2, g3, g4, g5, g6⟩, hc7, h⟩ := h
  refine callVI (rest := [.int n1, .ref qt_value]) ⟨hx, hb, hml, hown, hts⟩ (ctX8_takeNumber l D cI cZ cB cS kK kV _ qt qt_w qt_isKept qt_value qt_weight qt_newTube qt_newPrice qt_newLow qt_newHigh qt_newGoods qt_rhythm qt_rhythmLong qt_slug qt_text qt_of qt_buyerColumn qt_buyerKind qt_buyerCoins qt_tryRow qt_tryLong qt_tryFree it_kinds it_columns it_slugs it_newKinds it_newColumns it_newSlugs it_rhythmTold it_textSize it_at it_first it_length it_faultOf it_fault it_buyerMany it_tryMany ft_text 1 99 N r2 g3 g4 g5 g6 hc7) (cwV 2 hts gX8_takeCoin_X8_takeNumber rfl rfl rfl hdX8_takeNumber ⟨Nat.le_of_ble_eq_true rfl, Nat.le_of_ble_eq_true rfl⟩) hK hN hX hP (dF hD rfl) hS hA [0, 2] (mcC rfl (mcC rfl mcN)) (by decide +kernel) [(qt, .inr (8, [.ref qt_w, .ref qt_isKept, .ref qt_value, .ref qt_weight, .ref qt_newTube, .ref qt_newPrice, .ref qt_newLow, .ref qt_newHigh, .ref qt_newGoods, .ref qt_rhythm, .ref qt_rhythmLong, .ref qt_slug, .int it_kinds, .int it_columns, .int it_slugs, .int it_newKinds, .int it_newColumns, .int it_newSlugs, .int it_rhythmTold, .ref qt_text, .int it_textSize, .int g3, .int g4, .int it_length, .int g5, .int g6, .ref qt_of, .ref qt_buyerColumn, .ref qt_buyerKind, .ref qt_buyerCoins, .int it_buyerMany, .ref qt_tryRow, .ref qt_tryLong, .ref qt_tryFree, .int it_tryMany])), (qt_value, .inl (cI, 10, .inl ft_value)), (qt_text, .inl (cI, 400, .inl ft_text)), (qt_weight, .inl (cI, 10, .inl ft_weight)), (qt_newTube, .inl (cI, 10, .inl ft_newTube))] [1, 3, 4] (mcC rfl (mcC rfl mcN)) ((mcC rfl (mcC rfl (mcC rfl mcN))).trans (mcC rfl (mcC rfl (mcC rfl mcN))).symm) 5 rfl (by decide +kernel) (va_recv hK hP (ci := 8) (q0 := 0) rfl rfl) rfl hl.1 rfl (Nat.le_of_ble_eq_true rfl) ⟨Nat.zero_le _, Nat.zero_le _⟩ dX8_takeCoin_16 (fun H locs hP hS => ?_)
  replace h := ck_el h
  obtain ⟨hi8, h⟩ := h
  refine va_iast hx hb hK hP (dF hD rfl) hS 1 0 rfl rfl hi8 dX8_takeCoin_19 (fun H locs hP _ hS => ?_)
  replace hP : va_P D vwCl [(qt, .inr (8, [.ref qt_w, .ref qt_isKept, .ref qt_value, .ref qt_weight, .ref qt_newTube, .ref qt_newPrice, .ref qt_newLow, .ref qt_newHigh, .ref qt_newGoods, .ref qt_rhythm, .ref qt_rhythmLong, .ref qt_slug, .int it_kinds, .int it_columns, .int it_slugs, .int it_newKinds, .int it_newColumns, .int it_newSlugs, .int it_rhythmTold, .ref qt_text, .int it_textSize, .int g3, .int g4, .int it_length, .int g5, .int g6, .ref qt_of, .ref qt_buyerColumn, .ref qt_buyerKind, .ref qt_buyerCoins, .int it_buyerMany, .ref qt_tryRow, .ref qt_tryLong, .ref qt_tryFree, .int it_tryMany])), (qt_value, .inl (cI, 10, .inl (upd ft_value (Int32.toNatClampNeg n1) r2))), (qt_text, .inl (cI, 400, .inl ft_text)), (qt_weight, .inl (cI, 10, .inl ft_weight)), (qt_newTube, .inl (cI, 10, .inl ft_newTube))] H := hP
  refine lv_aload_n hx hb dX8_takeCoin_20 rfl (lv_at hl 1 rfl) ?_
  refine va_get (ci := 8) (v := .ref qt_weight) (C := RX8) (T := TX8) (N := 35) hx hb hts hiX8 hown hK hP 0 rfl rfl 3 (by decide) fl20 (fun _ h9 => h9) rfl dX8_takeCoin_21 ?_
  refine lv_iload_n hx hb dX8_takeCoin_24 rfl (lv_at hl 0 rfl) ?_
  refine lv_aload_n hx hb dX8_takeCoin_25 rfl (lv_at hl 1 rfl) ?_
  refine lv_bipush (v := 10) hx hb dX8_takeCoin_26 (by decide) ?_
  refine lv_bipush (v := 99) hx hb dX8_takeCoin_28 (by decide) ?_
  replace h := bd_el h
  obtain ⟨⟨r9, g10, g11, g12, g13⟩, hc14, h⟩ := h
  refine callVI (rest := [.int n1, .ref qt_weight]) ⟨hx, hb, hml, hown, hts⟩ (ctX8_takeNumber l D cI cZ cB cS kK kV _ qt qt_w qt_isKept qt_value qt_weight qt_newTube qt_newPrice qt_newLow qt_newHigh qt_newGoods qt_rhythm qt_rhythmLong qt_slug qt_text qt_of qt_buyerColumn qt_buyerKind qt_buyerCoins qt_tryRow qt_tryLong qt_tryFree it_kinds it_columns it_slugs it_newKinds it_newColumns it_newSlugs it_rhythmTold it_textSize g3 g4 it_length g5 g6 it_buyerMany it_tryMany ft_text 10 99 N r9 g10 g11 g12 g13 hc14) (cwV 2 hts gX8_takeCoin_X8_takeNumber rfl rfl rfl hdX8_takeNumber ⟨Nat.le_of_ble_eq_true rfl, Nat.le_of_ble_eq_true rfl⟩) hK hN hX hP (dF hD rfl) hS hA [0, 2] (mcC rfl (mcC rfl mcN)) (by decide +kernel) [(qt, .inr (8, [.ref qt_w, .ref qt_isKept, .ref qt_value, .ref qt_weight, .ref qt_newTube, .ref qt_newPrice, .ref qt_newLow, .ref qt_newHigh, .ref qt_newGoods, .ref qt_rhythm, .ref qt_rhythmLong, .ref qt_slug, .int it_kinds, .int it_columns, .int it_slugs, .int it_newKinds, .int it_newColumns, .int it_newSlugs, .int it_rhythmTold, .ref qt_text, .int it_textSize, .int g10, .int g11, .int it_length, .int g12, .int g13, .ref qt_of, .ref qt_buyerColumn, .ref qt_buyerKind, .ref qt_buyerCoins, .int it_buyerMany, .ref qt_tryRow, .ref qt_tryLong, .ref qt_tryFree, .int it_tryMany])), (qt_value, .inl (cI, 10, .inl (upd ft_value (Int32.toNatClampNeg n1) r2))), (qt_text, .inl (cI, 400, .inl ft_text)), (qt_weight, .inl (cI, 10, .inl ft_weight)), (qt_newTube, .inl (cI, 10, .inl ft_newTube))] [1, 3, 4] (mcC rfl (mcC rfl mcN)) ((mcC rfl (mcC rfl (mcC rfl mcN))).trans (mcC rfl (mcC rfl (mcC rfl mcN))).symm) 5 rfl (by decide +kernel) (va_recv hK hP (ci := 8) (q0 := 0) rfl rfl) rfl hl.1 rfl (Nat.le_of_ble_eq_true rfl) ⟨Nat.zero_le _, Nat.zero_le _⟩ dX8_takeCoin_30 (fun H locs hP hS => ?_)
  refine va_iast hx hb hK hP (dF hD rfl) hS 3 0 rfl rfl hi8 dX8_takeCoin_33 (fun H locs hP _ hS => ?_)
  replace hP : va_P D vwCl [(qt, .inr (8, [.ref qt_w, .ref qt_isKept, .ref qt_value, .ref qt_weight, .ref qt_newTube, .ref qt_newPrice, .ref qt_newLow, .ref qt_newHigh, .ref qt_newGoods, .ref qt_rhythm, .ref qt_rhythmLong, .ref qt_slug, .int it_kinds, .int it_columns, .int it_slugs, .int it_newKinds, .int it_newColumns, .int it_newSlugs, .int it_rhythmTold, .ref qt_text, .int it_textSize, .int g10, .int g11, .int it_length, .int g12, .int g13, .ref qt_of, .ref qt_buyerColumn, .ref qt_buyerKind, .ref qt_buyerCoins, .int it_buyerMany, .ref qt_tryRow, .ref qt_tryLong, .ref qt_tryFree, .int it_tryMany])), (qt_value, .inl (cI, 10, .inl (upd ft_value (Int32.toNatClampNeg n1) r2))), (qt_text, .inl (cI, 400, .inl ft_text)), (qt_weight, .inl (cI, 10, .inl (upd ft_weight (Int32.toNatClampNeg n1) r9))), (qt_newTube, .inl (cI, 10, .inl ft_newTube))] H := hP
  refine lv_aload_n hx hb dX8_takeCoin_34 rfl (lv_at hl 1 rfl) ?_
  refine va_get (ci := 8) (v := .ref qt_newTube) (C := RX8) (T := TX8) (N := 35) hx hb hts hiX8 hown hK hP 0 rfl rfl 4 (by decide) fl23 (fun _ h9 => h9) rfl dX8_takeCoin_35 ?_
  refine lv_iload_n hx hb dX8_takeCoin_38 rfl (lv_at hl 0 rfl) ?_
  refine lv_aload_n hx hb dX8_takeCoin_39 rfl (lv_at hl 1 rfl) ?_
  refine lv_iconst (v := 0) hx hb dX8_takeCoin_40 (by decide) ?_
  refine lv_bipush (v := 60) hx hb dX8_takeCoin_41 (by decide) ?_
  replace h := bd_el h
  obtain ⟨⟨r15, g16, g17, g18, g19⟩, hc20, h⟩ := h
  refine callVI (rest := [.int n1, .ref qt_newTube]) ⟨hx, hb, hml, hown, hts⟩ (ctX8_takeNumber l D cI cZ cB cS kK kV _ qt qt_w qt_isKept qt_value qt_weight qt_newTube qt_newPrice qt_newLow qt_newHigh qt_newGoods qt_rhythm qt_rhythmLong qt_slug qt_text qt_of qt_buyerColumn qt_buyerKind qt_buyerCoins qt_tryRow qt_tryLong qt_tryFree it_kinds it_columns it_slugs it_newKinds it_newColumns it_newSlugs it_rhythmTold it_textSize g10 g11 it_length g12 g13 it_buyerMany it_tryMany ft_text 0 60 N r15 g16 g17 g18 g19 hc20) (cwV 2 hts gX8_takeCoin_X8_takeNumber rfl rfl rfl hdX8_takeNumber ⟨Nat.le_of_ble_eq_true rfl, Nat.le_of_ble_eq_true rfl⟩) hK hN hX hP (dF hD rfl) hS hA [0, 2] (mcC rfl (mcC rfl mcN)) (by decide +kernel) [(qt, .inr (8, [.ref qt_w, .ref qt_isKept, .ref qt_value, .ref qt_weight, .ref qt_newTube, .ref qt_newPrice, .ref qt_newLow, .ref qt_newHigh, .ref qt_newGoods, .ref qt_rhythm, .ref qt_rhythmLong, .ref qt_slug, .int it_kinds, .int it_columns, .int it_slugs, .int it_newKinds, .int it_newColumns, .int it_newSlugs, .int it_rhythmTold, .ref qt_text, .int it_textSize, .int g16, .int g17, .int it_length, .int g18, .int g19, .ref qt_of, .ref qt_buyerColumn, .ref qt_buyerKind, .ref qt_buyerCoins, .int it_buyerMany, .ref qt_tryRow, .ref qt_tryLong, .ref qt_tryFree, .int it_tryMany])), (qt_value, .inl (cI, 10, .inl (upd ft_value (Int32.toNatClampNeg n1) r2))), (qt_text, .inl (cI, 400, .inl ft_text)), (qt_weight, .inl (cI, 10, .inl (upd ft_weight (Int32.toNatClampNeg n1) r9))), (qt_newTube, .inl (cI, 10, .inl ft_newTube))] [1, 3, 4] (mcC rfl (mcC rfl mcN)) ((mcC rfl (mcC rfl (mcC rfl mcN))).trans (mcC rfl (mcC rfl (mcC rfl mcN))).symm) 5 rfl (by decide +kernel) (va_recv hK hP (ci := 8) (q0 := 0) rfl rfl) rfl hl.1 rfl (Nat.le_of_ble_eq_true rfl) ⟨Nat.zero_le _, Nat.zero_le _⟩ dX8_takeCoin_43 (fun H locs hP hS => ?_)
  refine va_iast hx hb hK hP (dF hD rfl) hS 4 0 rfl rfl hi8 dX8_takeCoin_46 (fun H locs hP _ hS => ?_)
  replace hP : va_P D vwCl [(qt, .inr (8, [.ref qt_w, .ref qt_isKept, .ref qt_value, .ref qt_weight, .ref qt_newTube, .ref qt_newPrice, .ref qt_newLow, .ref qt_newHigh, .ref qt_newGoods, .ref qt_rhythm, .ref qt_rhythmLong, .ref qt_slug, .int it_kinds, .int it_columns, .int it_slugs, .int it_newKinds, .int it_newColumns, .int it_newSlugs, .int it_rhythmTold, .ref qt_text, .int it_textSize, .int g16, .int g17, .int it_length, .int g18, .int g19, .ref qt_of, .ref qt_buyerColumn, .ref qt_buyerKind, .ref qt_buyerCoins, .int it_buyerMany, .ref qt_tryRow, .ref qt_tryLong, .ref qt_tryFree, .int it_tryMany])), (qt_value, .inl (cI, 10, .inl (upd ft_value (Int32.toNatClampNeg n1) r2))), (qt_text, .inl (cI, 400, .inl ft_text)), (qt_weight, .inl (cI, 10, .inl (upd ft_weight (Int32.toNatClampNeg n1) r9))), (qt_newTube, .inl (cI, 10, .inl (upd ft_newTube (Int32.toNatClampNeg n1) r15)))] H := hP
  refine lv_aload_n hx hb dX8_takeCoin_47 rfl (lv_at hl 1 rfl) ?_
  refine lv_dup hx hb dX8_takeCoin_48 rfl ?_
  refine va_get (ci := 8) (v := .int it_newKinds) (C := RX8) (T := TX8) (N := 35) hx hb hts hiX8 hown hK hP 0 rfl rfl 15 (by decide) fl117 (fun _ h9 => h9) rfl dX8_takeCoin_49 ?_
  refine lv_iconst (v := 1) hx hb dX8_takeCoin_52 (by decide) ?_
  refine lv_iadd hx hb dX8_takeCoin_53 ?_
  refine lv_topi (fun n21 en21 => ?_)
  replace h := lt_at en21 h
  refine va_put (ci := 8) (v := .int n21) (ty := .int) (C := RX8) (T := TX8) (N := 35) hx hb hts hiX8 tyX8 tyX8_ok nmX8 hown hK hP (dF hD rfl) hS 0 rfl rfl 15 (by decide) fl117 (fun _ h9 => h9) rfl (by decide +kernel) rfl rfl (Nat.le_of_ble_eq_true rfl) dX8_takeCoin_54 (fun H locs hP _ hS => ?_)
  replace hP : va_P D vwCl [(qt, .inr (8, [.ref qt_w, .ref qt_isKept, .ref qt_value, .ref qt_weight, .ref qt_newTube, .ref qt_newPrice, .ref qt_newLow, .ref qt_newHigh, .ref qt_newGoods, .ref qt_rhythm, .ref qt_rhythmLong, .ref qt_slug, .int it_kinds, .int it_columns, .int it_slugs, .int n21, .int it_newColumns, .int it_newSlugs, .int it_rhythmTold, .ref qt_text, .int it_textSize, .int g16, .int g17, .int it_length, .int g18, .int g19, .ref qt_of, .ref qt_buyerColumn, .ref qt_buyerKind, .ref qt_buyerCoins, .int it_buyerMany, .ref qt_tryRow, .ref qt_tryLong, .ref qt_tryFree, .int it_tryMany])), (qt_value, .inl (cI, 10, .inl (upd ft_value (Int32.toNatClampNeg n1) r2))), (qt_text, .inl (cI, 400, .inl ft_text)), (qt_weight, .inl (cI, 10, .inl (upd ft_weight (Int32.toNatClampNeg n1) r9))), (qt_newTube, .inl (cI, 10, .inl (upd ft_newTube (Int32.toNatClampNeg n1) r15)))] H := hP
  simp only [Option.some.injEq, Prod.mk.injEq] at h
  obtain ⟨rfl, rfl, rfl, rfl, rfl, rfl, rfl, rfl⟩ := h
  exact hret _ _ _ _ hP hS dX8_takeCoin_57
theorem hdX8_takeCoin : yX8_takeCoin.cls = RX8 ∧ yX8_takeCoin.cls ≠ "java/lang/invoke/MethodHandle" ∧ yX8_takeCoin.cls ≠ "java/lang/invoke/VarHandle" ∧ (parseMethodDescriptor yX8_takeCoin.desc).map (fun d => d.parameters.length) = some 0 := by decide +kernel
