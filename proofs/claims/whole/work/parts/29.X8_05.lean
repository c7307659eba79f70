noncomputable def fX8_payBack_L8 (N : Nat) : Nat → Int32 → Int32 → Int32 → Int32 → Int32 → (Nat → Int32) → (Nat → Int32) → Option (Int32 × (Nat → Int32))
  | 0, _, _, _, _, _, _, _ => none
  | k + 1, x1, x3, x4, x5, it_kinds, ft_value, ft_w => (if it_kinds ≤ x5 then some (x3, ft_w) else bd (fX8_greatest N it_kinds ft_value x4) fun r2 => lt (x4 ||| (1 <<< (r2 &&& 31))) fun n4 => ck r2 10 (nz (ft_value (Int32.toNatClampNeg r2)) (lt (x3 / (ft_value (Int32.toNatClampNeg r2))) fun n7 => ck (x1 + r2) 240 ((if (ft_w (Int32.toNatClampNeg (x1 + r2))) ≤ n7 then lt (ft_w (Int32.toNatClampNeg (x1 + r2))) fun n10 => lt ((ft_w (Int32.toNatClampNeg (x1 + r2))) - n10) fun n11 => lt (x3 - (n10 * (ft_value (Int32.toNatClampNeg r2)))) fun n12 => lt (x5 + 1) fun n13 => fX8_payBack_L8 N k x1 n12 n4 n13 it_kinds ft_value (upd ft_w (Int32.toNatClampNeg (x1 + r2)) n11) else lt ((ft_w (Int32.toNatClampNeg (x1 + r2))) - n7) fun n14 => lt (x3 - (n7 * (ft_value (Int32.toNatClampNeg r2)))) fun n15 => lt (x5 + 1) fun n16 => fX8_payBack_L8 N k x1 n15 n4 n16 it_kinds ft_value (upd ft_w (Int32.toNatClampNeg (x1 + r2)) n14))))))
theorem fX8_payBack_L8_s (N : Nat) (k : Nat) (x1 : Int32) (x3 : Int32) (x4 : Int32) (x5 : Int32) (it_kinds : Int32) (ft_value : Nat → Int32) (ft_w : Nat → Int32) : fX8_payBack_L8 N (k + 1) x1 x3 x4 x5 it_kinds ft_value ft_w = ((if it_kinds ≤ x5 then some (x3, ft_w) else bd (fX8_greatest N it_kinds ft_value x4) fun r2 => lt (x4 ||| (1 <<< (r2 &&& 31))) fun n4 => ck r2 10 (nz (ft_value (Int32.toNatClampNeg r2)) (lt (x3 / (ft_value (Int32.toNatClampNeg r2))) fun n7 => ck (x1 + r2) 240 ((if (ft_w (Int32.toNatClampNeg (x1 + r2))) ≤ n7 then lt (ft_w (Int32.toNatClampNeg (x1 + r2))) fun n10 => lt ((ft_w (Int32.toNatClampNeg (x1 + r2))) - n10) fun n11 => lt (x3 - (n10 * (ft_value (Int32.toNatClampNeg r2)))) fun n12 => lt (x5 + 1) fun n13 => fX8_payBack_L8 N k x1 n12 n4 n13 it_kinds ft_value (upd ft_w (Int32.toNatClampNeg (x1 + r2)) n11) else lt ((ft_w (Int32.toNatClampNeg (x1 + r2))) - n7) fun n14 => lt (x3 - (n7 * (ft_value (Int32.toNatClampNeg r2)))) fun n15 => lt (x5 + 1) fun n16 => fX8_payBack_L8 N k x1 n15 n4 n16 it_kinds ft_value (upd ft_w (Int32.toNatClampNeg (x1 + r2)) n14))))))) := rfl
noncomputable def fX8_payBack (N : Nat) (it_kinds : Int32) (ft_value : Nat → Int32) (ft_w : Nat → Int32) (x1 : Int32) (x2 : Int32) : Option (Int32 × (Nat → Int32)) := bd (fX8_payBack_L8 N N x1 x2 0 0 it_kinds ft_value ft_w) fun (n18, g19) => some (n18, g19)
set_option maxHeartbeats 4000000 in
set_option maxRecDepth 100000 in
theorem ctX8_payBack (l : Launch) (D : va_G) (cI cZ cB cS : ClassId) (kK kV : Nat → Nat) (sz : Nat) (qt qt_w qt_isKept qt_value qt_weight qt_newTube qt_newPrice qt_newLow qt_newHigh qt_newGoods qt_rhythm qt_rhythmLong qt_slug qt_text qt_of qt_buyerColumn qt_buyerKind qt_buyerCoins qt_tryRow qt_tryLong qt_tryFree : Nat) (it_kinds : Int32) (it_columns : Int32) (it_slugs : Int32) (it_newKinds : Int32) (it_newColumns : Int32) (it_newSlugs : Int32) (it_rhythmTold : Int32) (it_textSize : Int32) (it_at : Int32) (it_first : Int32) (it_length : Int32) (it_faultOf : Int32) (it_fault : Int32) (it_buyerMany : Int32) (it_tryMany : Int32) (ft_value : Nat → Int32) (ft_w : Nat → Int32) (x1 : Int32) (x2 : Int32) (N : Nat) (r0 : Int32) (w_ft_w : Nat → Int32) (h : fX8_payBack N it_kinds ft_value ft_w x1 x2 = some (r0, w_ft_w)) : CtI l yX8_payBack wsX8_payBack { frames := 2, cells := 0, slots := 0, locals := 44 } D (TY cI cZ cB cS) kK kV [.ref qt, .int x1, .int x2] [(qt, .inr (8, [.ref qt_w, .ref qt_isKept, .ref qt_value, .ref qt_weight, .ref qt_newTube, .ref qt_newPrice, .ref qt_newLow, .ref qt_newHigh, .ref qt_newGoods, .ref qt_rhythm, .ref qt_rhythmLong, .ref qt_slug, .int it_kinds, .int it_columns, .int it_slugs, .int it_newKinds, .int it_newColumns, .int it_newSlugs, .int it_rhythmTold, .ref qt_text, .int it_textSize, .int it_at, .int it_first, .int it_length, .int it_faultOf, .int it_fault, .ref qt_of, .ref qt_buyerColumn, .ref qt_buyerKind, .ref qt_buyerCoins, .int it_buyerMany, .ref qt_tryRow, .ref qt_tryLong, .ref qt_tryFree, .int it_tryMany])), (qt_value, .inl (cI, 10, .inl ft_value)), (qt_w, .inl (cI, 240, .inl ft_w))] [(qt, .inr (8, [.ref qt_w, .ref qt_isKept, .ref qt_value, .ref qt_weight, .ref qt_newTube, .ref qt_newPrice, .ref qt_newLow, .ref qt_newHigh, .ref qt_newGoods, .ref qt_rhythm, .ref qt_rhythmLong, .ref qt_slug, .int it_kinds, .int it_columns, .int it_slugs, .int it_newKinds, .int it_newColumns, .int it_newSlugs, .int it_rhythmTold, .ref qt_text, .int it_textSize, .int it_at, .int it_first, .int it_length, .int it_faultOf, .int it_fault, .ref qt_of, .ref qt_buyerColumn, .ref qt_buyerKind, .ref qt_buyerCoins, .int it_buyerMany, .ref qt_tryRow, .ref qt_tryLong, .ref qt_tryFree, .int it_tryMany])), (qt_value, .inl (cI, 10, .inl ft_value)), (qt_w, .inl (cI, 240, .inl w_ft_w))] sz r0 := by
  refine mkI (cc := cX8_payBack) (maxL := 8) (rt := .int) (own := RX8) (by decide) rfl rfl (Nat.le_of_ble_eq_true rfl) ?_
  intro p e s m args below meth c A Z ls hx hb hml hown hts hK hN hX hP hD hA hS hret hl
  have hl : lv_has ls 8 [(0, .ref qt), (1, .int x1), (2, .int x2)] := hl
  have fl164 : (Cond.fieldLink RX8 164 "SoupWallModel" "kinds" "I").before args s = true := hts _ (List.mem_of_getElem? (l := wsX8_payBack) (i := 1) rfl)
  have hiX8 : ∀ w ∈ wsX80, w ∈ wsX8_payBack := fun w h => List.mem_cons_of_mem _ (List.mem_append_right _ h)
  have fl17 : (Cond.fieldLink RX8 17 "SoupWallModel" "value" "[I").before args s = true := hts _ (List.mem_of_getElem? (l := wsX8_payBack) (i := 2) rfl)
  have fl7 : (Cond.fieldLink RX8 7 "SoupWallModel" "w" "[I").before args s = true := hts _ (List.mem_of_getElem? (l := wsX8_payBack) (i := 3) rfl)
  have lp8 : ∀ (k : Nat) (x1 : Int32) (x3 : Int32) (x4 : Int32) (x5 : Int32) (ft_w : Nat → Int32) (H : Heap) (locs : List Loc) (ls : Array Slot) (o : Int32 × (Nat → Int32)), fX8_payBack_L8 N k x1 x3 x4 x5 it_kinds ft_value ft_w = some o → va_P D vwCl [(qt, .inr (8, [.ref qt_w, .ref qt_isKept, .ref qt_value, .ref qt_weight, .ref qt_newTube, .ref qt_newPrice, .ref qt_newLow, .ref qt_newHigh, .ref qt_newGoods, .ref qt_rhythm, .ref qt_rhythmLong, .ref qt_slug, .int it_kinds, .int it_columns, .int it_slugs, .int it_newKinds, .int it_newColumns, .int it_newSlugs, .int it_rhythmTold, .ref qt_text, .int it_textSize, .int it_at, .int it_first, .int it_length, .int it_faultOf, .int it_fault, .ref qt_of, .ref qt_buyerColumn, .ref qt_buyerKind, .ref qt_buyerCoins, .int it_buyerMany, .ref qt_tryRow, .ref qt_tryLong, .ref qt_tryFree, .int it_tryMany])), (qt_value, .inl (cI, 10, .inl ft_value)), (qt_w, .inl (cI, 240, .inl ft_w))] H → va_S A s.heap H locs → lv_has ls 8 [(0, .ref qt), (1, .int x1), (3, .int x3), (4, .int x4), (5, .int x5)] → (∀ (e3 : Int32) (e_ft_w : Nat → Int32), (e3, e_ft_w) = o → ∀ (H : Heap) (locs : List Loc) (ls : Array Slot), va_P D vwCl [(qt, .inr (8, [.ref qt_w, .ref qt_isKept, .ref qt_value, .ref qt_weight, .ref qt_newTube, .ref qt_newPrice, .ref qt_newLow, .ref qt_newHigh, .ref qt_newGoods, .ref qt_rhythm, .ref qt_rhythmLong, .ref qt_slug, .int it_kinds, .int it_columns, .int it_slugs, .int it_newKinds, .int it_newColumns, .int it_newSlugs, .int it_rhythmTold, .ref qt_text, .int it_textSize, .int it_at, .int it_first, .int it_length, .int it_faultOf, .int it_fault, .ref qt_of, .ref qt_buyerColumn, .ref qt_buyerKind, .ref qt_buyerCoins, .int it_buyerMany, .ref qt_tryRow, .ref qt_tryLong, .ref qt_tryFree, .int it_tryMany])), (qt_value, .inl (cI, 10, .inl ft_value)), (qt_w, .inl (cI, 240, .inl e_ft_w))] H → va_S A s.heap H locs → lv_has ls 8 [(3, .int e3)] → W p l e ({ frames := 2, cells := 0, slots := 0, locals := 44 } : Room) s m args below meth c H locs 0 0 Z (F0 m 108 ls [])) → W p l e ({ frames := 2, cells := 0, slots := 0, locals := 44 } : Room) s m args below meth c H locs 0 0 Z (F0 m 8 ls []) := by
    intro k
    induction k with
    | zero =>
      intro x1 x3 x4 x5 ft_w H locs ls o h
      exact nomatch (show (none : Option (Int32 × (Nat → Int32))) = some o from h)
    | succ k ih =>
      intro x1 x3 x4 x5 ft_w H locs ls o h hP hS hl K
      rw [fX8_payBack_L8_s] at h
      refine lv_iload hx hb dX8_payBack_8 (lv_at hl 4 rfl) ?_
      refine lv_aload_n hx hb dX8_payBack_10 rfl (lv_at hl 0 rfl) ?_
      refine va_get (ci := 8) (v := .int it_kinds) (C := RX8) (T := TX8) (N := 35) hx hb hts hiX8 hown hK hP 0 rfl rfl 12 (by decide) fl164 (fun _ h9 => h9) rfl dX8_payBack_11 ?_
      refine lv_icmp_ge (tgt := 108) hx hb dX8_payBack_14 (by decide) (fun c1 => ?_) (fun c1 => ?_)
      · replace h := if_t c1 h
        exact K x3 ft_w (Option.some.inj h) _ _ _ hP hS (lv_sub hl [2] rfl)
      · replace h := if_f c1 h
        refine lv_aload_n hx hb dX8_payBack_17 rfl (lv_at hl 0 rfl) ?_
        refine lv_iload hx hb dX8_payBack_18 (lv_at hl 3 rfl) ?_
        replace h := bd_el h
        obtain ⟨r2, hc3, h⟩ := h
        refine callVI (rest := []) ⟨hx, hb, hml, hown, hts⟩ (ctX8_greatest l D cI cZ cB cS kK kV _ qt qt_w qt_isKept qt_value qt_weight qt_newTube qt_newPrice qt_newLow qt_newHigh qt_newGoods qt_rhythm qt_rhythmLong qt_slug qt_text qt_of qt_buyerColumn qt_buyerKind qt_buyerCoins qt_tryRow qt_tryLong qt_tryFree it_kinds it_columns it_slugs it_newKinds it_newColumns it_newSlugs it_rhythmTold it_textSize it_at it_first it_length it_faultOf it_fault it_buyerMany it_tryMany ft_value x4 N r2 hc3) (cwV 1 hts gX8_payBack_X8_greatest rfl rfl rfl hdX8_greatest ⟨Nat.le_of_ble_eq_true rfl, Nat.le_of_ble_eq_true rfl⟩) hK hN hX hP (dF hD rfl) hS hA [0, 1] (mcC rfl (mcC rfl mcN)) (by decide +kernel) [(qt, .inr (8, [.ref qt_w, .ref qt_isKept, .ref qt_value, .ref qt_weight, .ref qt_newTube, .ref qt_newPrice, .ref qt_newLow, .ref qt_newHigh, .ref qt_newGoods, .ref qt_rhythm, .ref qt_rhythmLong, .ref qt_slug, .int it_kinds, .int it_columns, .int it_slugs, .int it_newKinds, .int it_newColumns, .int it_newSlugs, .int it_rhythmTold, .ref qt_text, .int it_textSize, .int it_at, .int it_first, .int it_length, .int it_faultOf, .int it_fault, .ref qt_of, .ref qt_buyerColumn, .ref qt_buyerKind, .ref qt_buyerCoins, .int it_buyerMany, .ref qt_tryRow, .ref qt_tryLong, .ref qt_tryFree, .int it_tryMany])), (qt_value, .inl (cI, 10, .inl ft_value)), (qt_w, .inl (cI, 240, .inl ft_w))] [2] (mcC rfl (mcC rfl mcN)) ((mcC rfl mcN).trans (mcC rfl mcN).symm) 3 rfl (by decide +kernel) (va_recv hK hP (ci := 8) (q0 := 0) rfl rfl) rfl hl.1 rfl (Nat.le_of_ble_eq_true rfl) ⟨Nat.zero_le _, Nat.zero_le _⟩ dX8_payBack_20 (fun H locs hP hS => ?_)
        refine lv_istore (lv' := [(6, .int r2), (0, .ref qt), (1, .int x1), (3, .int x3), (4, .int x4), (5, .int x5)]) hx hb dX8_payBack_23 hl (by decide) rfl (fun ls hl => ?_)
        refine lv_iload hx hb dX8_payBack_25 (lv_at hl 4 rfl) ?_
        refine lv_iconst (v := 1) hx hb dX8_payBack_27 (by decide) ?_
        refine lv_iload hx hb dX8_payBack_28 (lv_at hl 0 rfl) ?_
        refine lv_ishl hx hb dX8_payBack_30 ?_
        refine lv_ior hx hb dX8_payBack_31 ?_
        refine lv_topi (fun n4 en4 => ?_)
        replace h := lt_at en4 h
        refine lv_istore (lv' := [(4, .int n4), (6, .int r2), (0, .ref qt), (1, .int x1), (3, .int x3), (5, .int x5)]) hx hb dX8_payBack_32 hl (by decide) rfl (fun ls hl => ?_)
        refine lv_iload_n hx hb dX8_payBack_34 rfl (lv_at hl 4 rfl) ?_
        refine lv_aload_n hx hb dX8_payBack_35 rfl (lv_at hl 2 rfl) ?_
        refine va_get (ci := 8) (v := .ref qt_value) (C := RX8) (T := TX8) (N := 35) hx hb hts hiX8 hown hK hP 0 rfl rfl 2 (by decide) fl17 (fun _ h9 => h9) rfl dX8_payBack_36 ?_
        refine lv_iload hx hb dX8_payBack_39 (lv_at hl 1 rfl) ?_
        replace h := ck_el h
        obtain ⟨hi5, h⟩ := h
        refine va_iald hx hb hK hP 1 0 rfl rfl hi5 dX8_payBack_41 ?_
        replace h := nz_el h
        obtain ⟨hz6, h⟩ := h
        refine lv_idiv hx hb dX8_payBack_42 hz6 ?_
        refine lv_topi (fun n7 en7 => ?_)
        replace h := lt_at en7 h
        refine lv_istore (lv' := [(7, .int n7), (4, .int n4), (6, .int r2), (0, .ref qt), (1, .int x1), (3, .int x3), (5, .int x5)]) hx hb dX8_payBack_43 hl (by decide) rfl (fun ls hl => ?_)
        refine lv_iload hx hb dX8_payBack_45 (lv_at hl 0 rfl) ?_
        refine lv_aload_n hx hb dX8_payBack_47 rfl (lv_at hl 3 rfl) ?_
        refine va_get (ci := 8) (v := .ref qt_w) (C := RX8) (T := TX8) (N := 35) hx hb hts hiX8 hown hK hP 0 rfl rfl 0 (by decide) fl7 (fun _ h9 => h9) rfl dX8_payBack_48 ?_
        refine lv_iload_n hx hb dX8_payBack_51 rfl (lv_at hl 4 rfl) ?_
        refine lv_iload hx hb dX8_payBack_52 (lv_at hl 2 rfl) ?_
        refine lv_iadd hx hb dX8_payBack_54 ?_
        replace h := ck_el h
        obtain ⟨hi8, h⟩ := h
        refine va_iald hx hb hK hP 2 0 rfl rfl hi8 dX8_payBack_55 ?_
        refine lv_icmp_ge (tgt := 64) hx hb dX8_payBack_56 (by decide) (fun c9 => ?_) (fun c9 => ?_)
        · replace h := if_t c9 h
          refine lv_aload_n hx hb dX8_payBack_64 rfl (lv_at hl 3 rfl) ?_
          refine va_get (ci := 8) (v := .ref qt_w) (C := RX8) (T := TX8) (N := 35) hx hb hts hiX8 hown hK hP 0 rfl rfl 0 (by decide) fl7 (fun _ h9 => h9) rfl dX8_payBack_65 ?_
          refine lv_iload_n hx hb dX8_payBack_68 rfl (lv_at hl 4 rfl) ?_
          refine lv_iload hx hb dX8_payBack_69 (lv_at hl 2 rfl) ?_
          refine lv_iadd hx hb dX8_payBack_71 ?_
          refine va_iald hx hb hK hP 2 0 rfl rfl hi8 dX8_payBack_72 ?_
          refine lv_topi (fun n10 en10 => ?_)
          replace h := lt_at en10 h
          refine lv_istore (lv' := [(7, .int n10), (4, .int n4), (6, .int r2), (0, .ref qt), (1, .int x1), (3, .int x3), (5, .int x5)]) hx hb dX8_payBack_73 hl (by decide) rfl (fun ls hl => ?_)
          refine lv_aload_n hx hb dX8_payBack_75 rfl (lv_at hl 3 rfl) ?_
          refine va_get (ci := 8) (v := .ref qt_w) (C := RX8) (T := TX8) (N := 35) hx hb hts hiX8 hown hK hP 0 rfl rfl 0 (by decide) fl7 (fun _ h9 => h9) rfl dX8_payBack_76 ?_
          refine lv_iload_n hx hb dX8_payBack_79 rfl (lv_at hl 4 rfl) ?_
          refine lv_iload hx hb dX8_payBack_80 (lv_at hl 2 rfl) ?_
          refine lv_iadd hx hb dX8_payBack_82 ?_
          refine lv_dup2_11 hx hb dX8_payBack_83 rfl rfl ?_
          refine va_iald hx hb hK hP 2 0 rfl rfl hi8 dX8_payBack_84 ?_
          refine lv_iload hx hb dX8_payBack_85 (lv_at hl 0 rfl) ?_
          refine lv_isub hx hb dX8_payBack_87 ?_
          refine lv_topi (fun n11 en11 => ?_)
          replace h := lt_at en11 h
          refine va_iast hx hb hK hP (dF hD rfl) hS 2 0 rfl rfl hi8 dX8_payBack_88 (fun H locs hP _ hS => ?_)
          replace hP : va_P D vwCl [(qt, .inr (8, [.ref qt_w, .ref qt_isKept, .ref qt_value, .ref qt_weight, .ref qt_newTube, .ref qt_newPrice, .ref qt_newLow, .ref qt_newHigh, .ref qt_newGoods, .ref qt_rhythm, .ref qt_rhythmLong, .ref qt_slug, .int it_kinds, .int it_columns, .int it_slugs, .int it_newKinds, .int it_newColumns, .int it_newSlugs, .int it_rhythmTold, .ref qt_text, .int it_textSize, .int it_at, .int it_first, .int it_length, .int it_faultOf, .int it_fault, .ref qt_of, .ref qt_buyerColumn, .ref qt_buyerKind, .ref qt_buyerCoins, .int it_buyerMany, .ref qt_tryRow, .ref qt_tryLong, .ref qt_tryFree, .int it_tryMany])), (qt_value, .inl (cI, 10, .inl ft_value)), (qt_w, .inl (cI, 240, .inl (upd ft_w (Int32.toNatClampNeg (x1 + r2)) n11)))] H := hP
          refine lv_iload_n hx hb dX8_payBack_89 rfl (lv_at hl 5 rfl) ?_
          refine lv_iload hx hb dX8_payBack_90 (lv_at hl 0 rfl) ?_
          refine lv_aload_n hx hb dX8_payBack_92 rfl (lv_at hl 3 rfl) ?_
          refine va_get (ci := 8) (v := .ref qt_value) (C := RX8) (T := TX8) (N := 35) hx hb hts hiX8 hown hK hP 0 rfl rfl 2 (by decide) fl17 (fun _ h9 => h9) rfl dX8_payBack_93 ?_
          refine lv_iload hx hb dX8_payBack_96 (lv_at hl 2 rfl) ?_
          refine va_iald hx hb hK hP 1 0 rfl rfl hi5 dX8_payBack_98 ?_
          refine lv_imul hx hb dX8_payBack_99 ?_
          refine lv_isub hx hb dX8_payBack_100 ?_
          refine lv_topi (fun n12 en12 => ?_)
          replace h := lt_at en12 h
          refine lv_istore_n (lv' := [(3, .int n12), (7, .int n10), (4, .int n4), (6, .int r2), (0, .ref qt), (1, .int x1), (5, .int x5)]) hx hb dX8_payBack_101 rfl hl (by decide) rfl (fun ls hl => ?_)
          obtain ⟨n13, en13⟩ : ∃ z : Int32, z = x5 + 1 := ⟨_, rfl⟩
          replace h := lt_at en13 h
          refine lv_iinc (v := n13) (lv' := [(5, .int n13), (3, .int n12), (7, .int n10), (4, .int n4), (6, .int r2), (0, .ref qt), (1, .int x1)]) hx hb dX8_payBack_102 hl (k := 6) rfl (by rw [en13]; rfl) (by decide) rfl (fun ls hl => ?_)
          refine lv_goto (tgt := 8) hx hb dX8_payBack_105 (by decide) ?_
          exact ih x1 n12 n4 n13 (upd ft_w (Int32.toNatClampNeg (x1 + r2)) n11) _ _ _ o h hP hS (lv_sub hl [5, 6, 1, 3, 0] rfl) K
        · replace h := if_f c9 h
          refine lv_iload hx hb dX8_payBack_59 (lv_at hl 0 rfl) ?_
          refine lv_goto (tgt := 73) hx hb dX8_payBack_61 (by decide) ?_
          refine lv_istore (lv' := [(7, .int n7), (4, .int n4), (6, .int r2), (0, .ref qt), (1, .int x1), (3, .int x3), (5, .int x5)]) hx hb dX8_payBack_73 hl (by decide) rfl (fun ls hl => ?_)
          refine lv_aload_n hx hb dX8_payBack_75 rfl (lv_at hl 3 rfl) ?_
          refine va_get (ci := 8) (v := .ref qt_w) (C := RX8) (T := TX8) (N := 35) hx hb hts hiX8 hown hK hP 0 rfl rfl 0 (by decide) fl7 (fun _ h9 => h9) rfl dX8_payBack_76 ?_
          refine lv_iload_n hx hb dX8_payBack_79 rfl (lv_at hl 4 rfl) ?_
          refine lv_iload hx hb dX8_payBack_80 (lv_at hl 2 rfl) ?_
          refine lv_iadd hx hb dX8_payBack_82 ?_
          refine lv_dup2_11 hx hb dX8_payBack_83 rfl rfl ?_
          refine va_iald hx hb hK hP 2 0 rfl rfl hi8 dX8_payBack_84 ?_
          refine lv_iload hx hb dX8_payBack_85 (lv_at hl 0 rfl) ?_
          refine lv_isub hx hb dX8_payBack_87 ?_
          refine lv_topi (fun n14 en14 => ?_)
          replace h := lt_at en14 h
          refine va_iast hx hb hK hP (dF hD rfl) hS 2 0 rfl rfl hi8 dX8_payBack_88 (fun H locs hP _ hS => ?_)
          replace hP : va_P D vwCl [(qt, .inr (8, [.ref qt_w, .ref qt_isKept, .ref qt_value, .ref qt_weight, .ref qt_newTube, .ref qt_newPrice, .ref qt_newLow, .ref qt_newHigh, .ref qt_newGoods, .ref qt_rhythm, .ref qt_rhythmLong, .ref qt_slug, .int it_kinds, .int it_columns, .int it_slugs, .int it_newKinds, .int it_newColumns, .int it_newSlugs, .int it_rhythmTold, .ref qt_text, .int it_textSize, .int it_at, .int it_first, .int it_length, .int it_faultOf, .int it_fault, .ref qt_of, .ref qt_buyerColumn, .ref qt_buyerKind, .ref qt_buyerCoins, .int it_buyerMany, .ref qt_tryRow, .ref qt_tryLong, .ref qt_tryFree, .int it_tryMany])), (qt_value, .inl (cI, 10, .inl ft_value)), (qt_w, .inl (cI, 240, .inl (upd ft_w (Int32.toNatClampNeg (x1 + r2)) n14)))] H := hP
          refine lv_iload_n hx hb dX8_payBack_89 rfl (lv_at hl 5 rfl) ?_
          refine lv_iload hx hb dX8_payBack_90 (lv_at hl 0 rfl) ?_
          refine lv_aload_n hx hb dX8_payBack_92 rfl (lv_at hl 3 rfl) ?_
          refine va_get (ci := 8) (v := .ref qt_value) (C := RX8) (T := TX8) (N := 35) hx hb hts hiX8 hown hK hP 0 rfl rfl 2 (by decide) fl17 (fun _ h9 => h9) rfl dX8_payBack_93 ?_
          refine lv_iload hx hb dX8_payBack_96 (lv_at hl 2 rfl) ?_
          refine va_iald hx hb hK hP 1 0 rfl rfl hi5 dX8_payBack_98 ?_
          refine lv_imul hx hb dX8_payBack_99 ?_
          refine lv_isub hx hb dX8_payBack_100 ?_
          refine lv_topi (fun n15 en15 => ?_)
          replace h := lt_at en15 h
          refine lv_istore_n (lv' := [(3, .int n15), (7, .int n7), (4, .int n4), (6, .int r2), (0, .ref qt), (1, .int x1), (5, .int x5)]) hx hb dX8_payBack_101 rfl hl (by decide) rfl (fun ls hl => ?_)
          obtain ⟨n16, en16⟩ : ∃ z : Int32, z = x5 + 1 := ⟨_, rfl⟩
          replace h := lt_at en16 h
          refine lv_iinc (v := n16) (lv' := [(5, .int n16), (3, .int n15), (7, .int n7), (4, .int n4), (6, .int r2), (0, .ref qt), (1, .int x1)]) hx hb dX8_payBack_102 hl (k := 6) rfl (by rw [en16]; rfl) (by decide) rfl (fun ls hl => ?_)
          refine lv_goto (tgt := 8) hx hb dX8_payBack_105 (by decide) ?_
          exact ih x1 n15 n4 n16 (upd ft_w (Int32.toNatClampNeg (x1 + r2)) n14) _ _ _ o h hP hS (lv_sub hl [5, 6, 1, 3, 0] rfl) K
  unfold fX8_payBack at h
  refine lv_iload_n hx hb dX8_payBack_0 rfl (lv_at hl 2 rfl) ?_
  refine lv_istore_n (lv' := [(3, .int x2), (0, .ref qt), (1, .int x1), (2, .int x2)]) hx hb dX8_payBack_1 rfl hl (by decide) rfl (fun ls hl => ?_)
  refine lv_iconst (v := 0) hx hb dX8_payBack_2 (by decide) ?_
  refine lv_istore (lv' := [(4, .int 0), (3, .int x2), (0, .ref qt), (1, .int x1), (2, .int x2)]) hx hb dX8_payBack_3 hl (by decide) rfl (fun ls hl => ?_)
  refine lv_iconst (v := 0) hx hb dX8_payBack_5 (by decide) ?_
  refine lv_istore (lv' := [(5, .int 0), (4, .int 0), (3, .int x2), (0, .ref qt), (1, .int x1), (2, .int x2)]) hx hb dX8_payBack_6 hl (by decide) rfl (fun ls hl => ?_)
  replace h := bd_el h
  obtain ⟨o17, ho17, h⟩ := h
  refine lp8 N x1 x2 0 0 ft_w _ _ _ o17 ho17 hP hS (lv_sub hl [3, 4, 2, 1, 0] rfl) (fun n18 g19 eo H locs ls hP hS hl => ?_)
  subst eo
  refine lv_iload_n hx hb dX8_payBack_108 rfl (lv_at hl 0 rfl) ?_
  simp only [Option.some.injEq, Prod.mk.injEq] at h
  obtain ⟨rfl, rfl⟩ := h
  exact hret _ _ _ _ hP hS rfl dX8_payBack_109
theorem hdX8_payBack : yX8_payBack.cls = RX8 ∧ yX8_payBack.cls ≠ "java/lang/invoke/MethodHandle" ∧ yX8_payBack.cls ≠ "java/lang/invoke/VarHandle" ∧ (parseMethodDescriptor yX8_payBack.desc).map (fun d => d.parameters.length) = some 2 := by decide +kernel

noncomputable def fX8_canBuy (N : Nat) (ft_w : Nat → Int32) (ft_weight : Nat → Int32) (ft_value : Nat → Int32) (x1 : Int32) (x2 : Int32) (x3 : Int32) (x4 : Int32) : Option (Int32) := ck ((x1 + 10) + x2) 240 ((if 10 ≤ (ft_w (Int32.toNatClampNeg ((x1 + 10) + x2))) then some 0 else bd (fX8_weightIn N ft_weight ft_w x1 x3) fun r3 => bd (fX8_passes N ft_w x1 x2 r3) fun r5 => (if r5 = 0 then some 0 else ck x3 10 (ck ((x1 + 25) + x2) 240 ((if (x4 * (ft_value (Int32.toNatClampNeg x3))) < (ft_w (Int32.toNatClampNeg ((x1 + 25) + x2))) then some 0 else ck ((x1 + 40) + x2) 240 (ck ((x1 + 5) + (ft_w (Int32.toNatClampNeg ((x1 + 40) + x2)))) 240 ((if (ft_w (Int32.toNatClampNeg ((x1 + 5) + (ft_w (Int32.toNatClampNeg ((x1 + 40) + x2)))))) ≤ 0 then some 0 else some 1)))))))))
set_option maxHeartbeats 4000000 in
set_option maxRecDepth 100000 in
theorem ctX8_canBuy (l : Launch) (D : va_G) (cI cZ cB cS : ClassId) (kK kV : Nat → Nat) (sz : Nat) (qt qt_w qt_isKept qt_value qt_weight qt_newTube qt_newPrice qt_newLow qt_newHigh qt_newGoods qt_rhythm qt_rhythmLong qt_slug qt_text qt_of qt_buyerColumn qt_buyerKind qt_buyerCoins qt_tryRow qt_tryLong qt_tryFree : Nat) (it_kinds : Int32) (it_columns : Int32) (it_slugs : Int32) (it_newKinds : Int32) (it_newColumns : Int32) (it_newSlugs : Int32) (it_rhythmTold : Int32) (it_textSize : Int32) (it_at : Int32) (it_first : Int32) (it_length : Int32) (it_faultOf : Int32) (it_fault : Int32) (it_buyerMany : Int32) (it_tryMany : Int32) (ft_w : Nat → Int32) (ft_weight : Nat → Int32) (ft_value : Nat → Int32) (x1 : Int32) (x2 : Int32) (x3 : Int32) (x4 : Int32) (N : Nat) (r0 : Int32)  (h : fX8_canBuy N ft_w ft_weight ft_value x1 x2 x3 x4 = some r0) : CtI l yX8_canBuy wsX8_canBuy { frames := 2, cells := 0, slots := 0, locals := 48 } D (TY cI cZ cB cS) kK kV [.ref qt, .int x1, .int x2, .int x3, .int x4] [(qt, .inr (8, [.ref qt_w, .ref qt_isKept, .ref qt_value, .ref qt_weight, .ref qt_newTube, .ref qt_newPrice, .ref qt_newLow, .ref qt_newHigh, .ref qt_newGoods, .ref qt_rhythm, .ref qt_rhythmLong, .ref qt_slug, .int it_kinds, .int it_columns, .int it_slugs, .int it_newKinds, .int it_newColumns, .int it_newSlugs, .int it_rhythmTold, .ref qt_text, .int it_textSize, .int it_at, .int it_first, .int it_length, .int it_faultOf, .int it_fault, .ref qt_of, .ref qt_buyerColumn, .ref qt_buyerKind, .ref qt_buyerCoins, .int it_buyerMany, .ref qt_tryRow, .ref qt_tryLong, .ref qt_tryFree, .int it_tryMany])), (qt_w, .inl (cI, 240, .inl ft_w)), (qt_weight, .inl (cI, 10, .inl ft_weight)), (qt_value, .inl (cI, 10, .inl ft_value))] [(qt, .inr (8, [.ref qt_w, .ref qt_isKept, .ref qt_value, .ref qt_weight, .ref qt_newTube, .ref qt_newPrice, .ref qt_newLow, .ref qt_newHigh, .ref qt_newGoods, .ref qt_rhythm, .ref qt_rhythmLong, .ref qt_slug, .int it_kinds, .int it_columns, .int it_slugs, .int it_newKinds, .int it_newColumns, .int it_newSlugs, .int it_rhythmTold, .ref qt_text, .int it_textSize, .int it_at, .int it_first, .int it_length, .int it_faultOf, .int it_fault, .ref qt_of, .ref qt_buyerColumn, .ref qt_buyerKind, .ref qt_buyerCoins, .int it_buyerMany, .ref qt_tryRow, .ref qt_tryLong, .ref qt_tryFree, .int it_tryMany])), (qt_w, .inl (cI, 240, .inl ft_w)), (qt_weight, .inl (cI, 10, .inl ft_weight)), (qt_value, .inl (cI, 10, .inl ft_value))] sz r0 := by
  refine mkI (cc := cX8_canBuy) (maxL := 5) (rt := .boolean) (own := RX8) (by decide) rfl rfl (Nat.le_of_ble_eq_true rfl) ?_
  intro p e s m args below meth c A Z ls hx hb hml hown hts hK hN hX hP hD hA hS hret hl
  have hl : lv_has ls 5 [(0, .ref qt), (1, .int x1), (2, .int x2), (3, .int x3), (4, .int x4)] := hl
  have fl7 : (Cond.fieldLink RX8 7 "SoupWallModel" "w" "[I").before args s = true := hts _ (List.mem_of_getElem? (l := wsX8_canBuy) (i := 1) rfl)
  have hiX8 : ∀ w ∈ wsX80, w ∈ wsX8_canBuy := fun w h => List.mem_cons_of_mem _ (List.mem_append_right _ h)
  have fl17 : (Cond.fieldLink RX8 17 "SoupWallModel" "value" "[I").before args s = true := hts _ (List.mem_of_getElem? (l := wsX8_canBuy) (i := 2) rfl)
  unfold fX8_canBuy at h
  refine lv_aload_n hx hb dX8_canBuy_0 rfl (lv_at hl 0 rfl) ?_
  refine va_get (ci := 8) (v := .ref qt_w) (C := RX8) (T := TX8) (N := 35) hx hb hts hiX8 hown hK hP 0 rfl rfl 0 (by decide) fl7 (fun _ h9 => h9) rfl dX8_canBuy_1 ?_
  refine lv_iload_n hx hb dX8_canBuy_4 rfl (lv_at hl 1 rfl) ?_
  refine lv_bipush (v := 10) hx hb dX8_canBuy_5 (by decide) ?_
  refine lv_iadd hx hb dX8_canBuy_7 ?_
  refine lv_iload_n hx hb dX8_canBuy_8 rfl (lv_at hl 2 rfl) ?_
  refine lv_iadd hx hb dX8_canBuy_9 ?_
  replace h := ck_el h
  obtain ⟨hi1, h⟩ := h
  refine va_iald hx hb hK hP 1 0 rfl rfl hi1 dX8_canBuy_10 ?_
  refine lv_bipush (v := 10) hx hb dX8_canBuy_11 (by decide) ?_
  refine lv_icmp_ge (tgt := 81) hx hb dX8_canBuy_13 (by decide) (fun c2 => ?_) (fun c2 => ?_)
  · replace h := if_t c2 h
    refine lv_iconst (v := 0) hx hb dX8_canBuy_81 (by decide) ?_
    simp only [Option.some.injEq] at h
    subst h
    exact hret _ _ _ _ hP hS rfl dX8_canBuy_82
  · replace h := if_f c2 h
    refine lv_aload_n hx hb dX8_canBuy_16 rfl (lv_at hl 0 rfl) ?_
    refine lv_iload_n hx hb dX8_canBuy_17 rfl (lv_at hl 1 rfl) ?_
    refine lv_iload_n hx hb dX8_canBuy_18 rfl (lv_at hl 2 rfl) ?_
    refine lv_aload_n hx hb dX8_canBuy_19 rfl (lv_at hl 0 rfl) ?_
    refine lv_iload_n hx hb dX8_canBuy_20 rfl (lv_at hl 1 rfl) ?_
    refine lv_iload_n hx hb dX8_canBuy_21 rfl (lv_at hl 3 rfl) ?_
    replace h := bd_el h
    obtain ⟨r3, hc4, h⟩ := h
    refine callVI (rest := [.int x2, .int x1, .ref qt]) ⟨hx, hb, hml, hown, hts⟩ (ctX8_weightIn l D cI cZ cB cS kK kV _ qt qt_w qt_isKept qt_value qt_weight qt_newTube qt_newPrice qt_newLow qt_newHigh qt_newGoods qt_rhythm qt_rhythmLong qt_slug qt_text qt_of qt_buyerColumn qt_buyerKind qt_buyerCoins qt_tryRow qt_tryLong qt_tryFree it_kinds it_columns it_slugs it_newKinds it_newColumns it_newSlugs it_rhythmTold it_textSize it_at it_first it_length it_faultOf it_fault it_buyerMany it_tryMany ft_weight ft_w x1 x3 N r3 hc4) (cwV 2 hts gX8_canBuy_X8_weightIn rfl rfl rfl hdX8_weightIn ⟨Nat.le_of_ble_eq_true rfl, Nat.le_of_ble_eq_true rfl⟩) hK hN hX hP (dF hD rfl) hS hA [0, 2, 1] (mcC rfl (mcC rfl (mcC rfl mcN))) (by decide +kernel) [(qt, .inr (8, [.ref qt_w, .ref qt_isKept, .ref qt_value, .ref qt_weight, .ref qt_newTube, .ref qt_newPrice, .ref qt_newLow, .ref qt_newHigh, .ref qt_newGoods, .ref qt_rhythm, .ref qt_rhythmLong, .ref qt_slug, .int it_kinds, .int it_columns, .int it_slugs, .int it_newKinds, .int it_newColumns, .int it_newSlugs, .int it_rhythmTold, .ref qt_text, .int it_textSize, .int it_at, .int it_first, .int it_length, .int it_faultOf, .int it_fault, .ref qt_of, .ref qt_buyerColumn, .ref qt_buyerKind, .ref qt_buyerCoins, .int it_buyerMany, .ref qt_tryRow, .ref qt_tryLong, .ref qt_tryFree, .int it_tryMany])), (qt_w, .inl (cI, 240, .inl ft_w)), (qt_weight, .inl (cI, 10, .inl ft_weight)), (qt_value, .inl (cI, 10, .inl ft_value))] [3] (mcC rfl (mcC rfl (mcC rfl mcN))) ((mcC rfl mcN).trans (mcC rfl mcN).symm) 4 rfl (by decide +kernel) (va_recv hK hP (ci := 8) (q0 := 0) rfl rfl) rfl hl.1 rfl (Nat.le_of_ble_eq_true rfl) ⟨Nat.zero_le _, Nat.zero_le _⟩ dX8_canBuy_22 (fun H locs hP hS => ?_)
    replace h := bd_el h
    obtain ⟨r5, hc6, h⟩ := h
    refine callVI (rest := []) ⟨hx, hb, hml, hown, hts⟩ (ctX8_passes l D cI cZ cB cS kK kV _ qt qt_w qt_isKept qt_value qt_weight qt_newTube qt_newPrice qt_newLow qt_newHigh qt_newGoods qt_rhythm qt_rhythmLong qt_slug qt_text qt_of qt_buyerColumn qt_buyerKind qt_buyerCoins qt_tryRow qt_tryLong qt_tryFree it_kinds it_columns it_slugs it_newKinds it_newColumns it_newSlugs it_rhythmTold it_textSize it_at it_first it_length it_faultOf it_fault it_buyerMany it_tryMany ft_w x1 x2 r3 N r5 hc6) (cwV 3 hts gX8_canBuy_X8_passes rfl rfl rfl hdX8_passes ⟨Nat.le_of_ble_eq_true rfl, Nat.le_of_ble_eq_true rfl⟩) hK hN hX hP (dF hD rfl) hS hA [0, 1] (mcC rfl (mcC rfl mcN)) (by decide +kernel) [(qt, .inr (8, [.ref qt_w, .ref qt_isKept, .ref qt_value, .ref qt_weight, .ref qt_newTube, .ref qt_newPrice, .ref qt_newLow, .ref qt_newHigh, .ref qt_newGoods, .ref qt_rhythm, .ref qt_rhythmLong, .ref qt_slug, .int it_kinds, .int it_columns, .int it_slugs, .int it_newKinds, .int it_newColumns, .int it_newSlugs, .int it_rhythmTold, .ref qt_text, .int it_textSize, .int it_at, .int it_first, .int it_length, .int it_faultOf, .int it_fault, .ref qt_of, .ref qt_buyerColumn, .ref qt_buyerKind, .ref qt_buyerCoins, .int it_buyerMany, .ref qt_tryRow, .ref qt_tryLong, .ref qt_tryFree, .int it_tryMany])), (qt_w, .inl (cI, 240, .inl ft_w)), (qt_weight, .inl (cI, 10, .inl ft_weight)), (qt_value, .inl (cI, 10, .inl ft_value))] [2, 3] (mcC rfl (mcC rfl mcN)) ((mcC rfl (mcC rfl mcN)).trans (mcC rfl (mcC rfl mcN)).symm) 4 rfl (by decide +kernel) (va_recv hK hP (ci := 8) (q0 := 0) rfl rfl) rfl hl.1 rfl (Nat.le_of_ble_eq_true rfl) ⟨Nat.zero_le _, Nat.zero_le _⟩ dX8_canBuy_25 (fun H locs hP hS => ?_)
    refine lv_if_eq (tgt := 81) hx hb dX8_canBuy_28 (by decide) (fun c7 => ?_) (fun c7 => ?_)
    · replace h := if_t c7 h
      refine lv_iconst (v := 0) hx hb dX8_canBuy_81 (by decide) ?_
      simp only [Option.some.injEq] at h
      subst h
      exact hret _ _ _ _ hP hS rfl dX8_canBuy_82
    · replace h := if_f c7 h
      refine lv_iload hx hb dX8_canBuy_31 (lv_at hl 4 rfl) ?_
      refine lv_aload_n hx hb dX8_canBuy_33 rfl (lv_at hl 0 rfl) ?_
      refine va_get (ci := 8) (v := .ref qt_value) (C := RX8) (T := TX8) (N := 35) hx hb hts hiX8 hown hK hP 0 rfl rfl 2 (by decide) fl17 (fun _ h9 => h9) rfl dX8_canBuy_34 ?_
      refine lv_iload_n hx hb dX8_canBuy_37 rfl (lv_at hl 3 rfl) ?_
      replace h := ck_el h
      obtain ⟨hi8, h⟩ := h
      refine va_iald hx hb hK hP 3 0 rfl rfl hi8 dX8_canBuy_38 ?_
      refine lv_imul hx hb dX8_canBuy_39 ?_
      refine lv_aload_n hx hb dX8_canBuy_40 rfl (lv_at hl 0 rfl) ?_
      refine va_get (ci := 8) (v := .ref qt_w) (C := RX8) (T := TX8) (N := 35) hx hb hts hiX8 hown hK hP 0 rfl rfl 0 (by decide) fl7 (fun _ h9 => h9) rfl dX8_canBuy_41 ?_
      refine lv_iload_n hx hb dX8_canBuy_44 rfl (lv_at hl 1 rfl) ?_
      refine lv_bipush (v := 25) hx hb dX8_canBuy_45 (by decide) ?_
      refine lv_iadd hx hb dX8_canBuy_47 ?_
      refine lv_iload_n hx hb dX8_canBuy_48 rfl (lv_at hl 2 rfl) ?_
      refine lv_iadd hx hb dX8_canBuy_49 ?_
      replace h := ck_el h
      obtain ⟨hi9, h⟩ := h
      refine va_iald hx hb hK hP 1 0 rfl rfl hi9 dX8_canBuy_50 ?_
      refine lv_icmp_lt (tgt := 81) hx hb dX8_canBuy_51 (by decide) (fun c10 => ?_) (fun c10 => ?_)
      · replace h := if_t c10 h
        refine lv_iconst (v := 0) hx hb dX8_canBuy_81 (by decide) ?_
        simp only [Option.some.injEq] at h
        subst h
        exact hret _ _ _ _ hP hS rfl dX8_canBuy_82
      · replace h := if_f c10 h
        refine lv_aload_n hx hb dX8_canBuy_54 rfl (lv_at hl 0 rfl) ?_
        refine va_get (ci := 8) (v := .ref qt_w) (C := RX8) (T := TX8) (N := 35) hx hb hts hiX8 hown hK hP 0 rfl rfl 0 (by decide) fl7 (fun _ h9 => h9) rfl dX8_canBuy_55 ?_
        refine lv_iload_n hx hb dX8_canBuy_58 rfl (lv_at hl 1 rfl) ?_
        refine lv_iconst (v := 5) hx hb dX8_canBuy_59 (by decide) ?_
        refine lv_iadd hx hb dX8_canBuy_60 ?_
        refine lv_aload_n hx hb dX8_canBuy_61 rfl (lv_at hl 0 rfl) ?_
        refine va_get (ci := 8) (v := .ref qt_w) (C := RX8) (T := TX8) (N := 35) hx hb hts hiX8 hown hK hP 0 rfl rfl 0 (by decide) fl7 (fun _ h9 => h9) rfl dX8_canBuy_62 ?_
        refine lv_iload_n hx hb dX8_canBuy_65 rfl (lv_at hl 1 rfl) ?_
        refine lv_bipush (v := 40) hx hb dX8_canBuy_66 (by decide) ?_
        refine lv_iadd hx hb dX8_canBuy_68 ?_
        refine lv_iload_n hx hb dX8_canBuy_69 rfl (lv_at hl 2 rfl) ?_
        refine lv_iadd hx hb dX8_canBuy_70 ?_
        replace h := ck_el h
        obtain ⟨hi11, h⟩ := h
        refine va_iald hx hb hK hP 1 0 rfl rfl hi11 dX8_canBuy_71 ?_
        refine lv_iadd hx hb dX8_canBuy_72 ?_
        replace h := ck_el h
        obtain ⟨hi12, h⟩ := h
        refine va_iald hx hb hK hP 1 0 rfl rfl hi12 dX8_canBuy_73 ?_
        refine lv_if_le (tgt := 81) hx hb dX8_canBuy_74 (by decide) (fun c13 => ?_) (fun c13 => ?_)
        · replace h := if_t c13 h
          refine lv_iconst (v := 0) hx hb dX8_canBuy_81 (by decide) ?_
          simp only [Option.some.injEq] at h
          subst h
          exact hret _ _ _ _ hP hS rfl dX8_canBuy_82
        · replace h := if_f c13 h
          refine lv_iconst (v := 1) hx hb dX8_canBuy_77 (by decide) ?_
          refine lv_goto (tgt := 82) hx hb dX8_canBuy_78 (by decide) ?_
          simp only [Option.some.injEq] at h
          subst h
          exact hret _ _ _ _ hP hS rfl dX8_canBuy_82
theorem hdX8_canBuy : yX8_canBuy.cls = RX8 ∧ yX8_canBuy.cls ≠ "java/lang/invoke/MethodHandle" ∧ yX8_canBuy.cls ≠ "java/lang/invoke/VarHandle" ∧ (parseMethodDescriptor yX8_canBuy.desc).map (fun d => d.parameters.length) = some 4 := by decide +kernel

noncomputable def fX8_sell (N : Nat) (it_kinds : Int32) (ft_w : Nat → Int32) (ft_value : Nat → Int32) (x1 : Int32) (x2 : Int32) (x3 : Int32) (x4 : Int32) : Option (Int32 × (Nat → Int32)) := ck ((x1 + 40) + x2) 240 (ck ((x1 + 5) + (ft_w (Int32.toNatClampNeg ((x1 + 40) + x2)))) 240 (lt ((ft_w (Int32.toNatClampNeg ((x1 + 5) + (ft_w (Int32.toNatClampNeg ((x1 + 40) + x2)))))) - 1) fun n3 => bd (fX8_putIn N (upd ft_w (Int32.toNatClampNeg ((x1 + 5) + (ft_w (Int32.toNatClampNeg ((x1 + 40) + x2))))) n3) x1 x3 x4) fun g4 => ck x3 10 (ck ((x1 + 25) + x2) 240 (bd (fX8_payBack N it_kinds ft_value g4 x1 ((x4 * (ft_value (Int32.toNatClampNeg x3))) - (g4 (Int32.toNatClampNeg ((x1 + 25) + x2))))) fun (r8, g9) => ck (x1 + 46) 240 (bd (fX8_held N ((Int32.toInt64 (g9 (Int32.toNatClampNeg (x1 + 46)))) + (Int32.toInt64 r8))) fun r12 => ck (x1 + 47) 240 (bd (fX8_held N ((Int32.toInt64 ((upd g9 (Int32.toNatClampNeg (x1 + 46)) r12) (Int32.toNatClampNeg (x1 + 47)))) + 1)) fun r15 => ck ((x1 + 10) + x2) 240 (ck (x1 + 48) 240 (lt (((upd (upd g9 (Int32.toNatClampNeg (x1 + 46)) r12) (Int32.toNatClampNeg (x1 + 47)) r15) (Int32.toNatClampNeg ((x1 + 10) + x2))) + (((upd (upd g9 (Int32.toNatClampNeg (x1 + 46)) r12) (Int32.toNatClampNeg (x1 + 47)) r15) (Int32.toNatClampNeg (x1 + 48))) * x4)) fun n19 => ck ((x1 + 15) + x2) 240 (ck ((x1 + 20) + x2) 240 (some (r8, upd (upd (upd (upd (upd g9 (Int32.toNatClampNeg (x1 + 46)) r12) (Int32.toNatClampNeg (x1 + 47)) r15) (Int32.toNatClampNeg ((x1 + 10) + x2)) n19) (Int32.toNatClampNeg ((x1 + 15) + x2)) 0) (Int32.toNatClampNeg ((x1 + 20) + x2)) 0)))))))))))
set_option maxHeartbeats 4000000 in
set_option maxRecDepth 100000 in
theorem ctX8_sell (l : Launch) (D : va_G) (cI cZ cB cS : ClassId) (kK kV : Nat → Nat) (sz : Nat) (qt qt_w qt_isKept qt_value qt_weight qt_newTube qt_newPrice qt_newLow qt_newHigh qt_newGoods qt_rhythm qt_rhythmLong qt_slug qt_text qt_of qt_buyerColumn qt_buyerKind qt_buyerCoins qt_tryRow qt_tryLong qt_tryFree : Nat) (it_kinds : Int32) (it_columns : Int32) (it_slugs : Int32) (it_newKinds : Int32) (it_newColumns : Int32) (it_newSlugs : Int32) (it_rhythmTold : Int32) (it_textSize : Int32) (it_at : Int32) (it_first : Int32) (it_length : Int32) (it_faultOf : Int32) (it_fault : Int32) (it_buyerMany : Int32) (it_tryMany : Int32) (ft_w : Nat → Int32) (ft_value : Nat → Int32) (x1 : Int32) (x2 : Int32) (x3 : Int32) (x4 : Int32) (N : Nat) (r0 : Int32) (w_ft_w : Nat → Int32) (h : fX8_sell N it_kinds ft_w ft_value x1 x2 x3 x4 = some (r0, w_ft_w)) : CtI l yX8_sell wsX8_sell { frames := 3, cells := 0, slots := 0, locals := 71 } D (TY cI cZ cB cS) kK kV [.ref qt, .int x1, .int x2, .int x3, .int x4] [(qt, .inr (8, [.ref qt_w, .ref qt_isKept, .ref qt_value, .ref qt_weight, .ref qt_newTube, .ref qt_newPrice, .ref qt_newLow, .ref qt_newHigh, .ref qt_newGoods, .ref qt_rhythm, .ref qt_rhythmLong, .ref qt_slug, .int it_kinds, .int it_columns, .int it_slugs, .int it_newKinds, .int it_newColumns, .int it_newSlugs, .int it_rhythmTold, .ref qt_text, .int it_textSize, .int it_at, .int it_first, .int it_length, .int it_faultOf, .int it_fault, .ref qt_of, .ref qt_buyerColumn, .ref qt_buyerKind, .ref qt_buyerCoins, .int it_buyerMany, .ref qt_tryRow, .ref qt_tryLong, .ref qt_tryFree, .int it_tryMany])), (qt_w, .inl (cI, 240, .inl ft_w)), (qt_value, .inl (cI, 10, .inl ft_value))] [(qt, .inr (8, [.ref qt_w, .ref qt_isKept, .ref qt_value, .ref qt_weight, .ref qt_newTube, .ref qt_newPrice, .ref qt_newLow, .ref qt_newHigh, .ref qt_newGoods, .ref qt_rhythm, .ref qt_rhythmLong, .ref qt_slug, .int it_kinds, .int it_columns, .int it_slugs, .int it_newKinds, .int it_newColumns, .int it_newSlugs, .int it_rhythmTold, .ref qt_text, .int it_textSize, .int it_at, .int it_first, .int it_length, .int it_faultOf, .int it_fault, .ref qt_of, .ref qt_buyerColumn, .ref qt_buyerKind, .ref qt_buyerCoins, .int it_buyerMany, .ref qt_tryRow, .ref qt_tryLong, .ref qt_tryFree, .int it_tryMany])), (qt_w, .inl (cI, 240, .inl w_ft_w)), (qt_value, .inl (cI, 10, .inl ft_value))] sz r0 := by
  refine mkI (cc := cX8_sell) (maxL := 6) (rt := .int) (own := RX8) (by decide) rfl rfl (Nat.le_of_ble_eq_true rfl) ?_
  intro p e s m args below meth c A Z ls hx hb hml hown hts hK hN hX hP hD hA hS hret hl
  have hl : lv_has ls 6 [(0, .ref qt), (1, .int x1), (2, .int x2), (3, .int x3), (4, .int x4)] := hl
  have fl7 : (Cond.fieldLink RX8 7 "SoupWallModel" "w" "[I").before args s = true := hts _ (List.mem_of_getElem? (l := wsX8_sell) (i := 1) rfl)
  have hiX8 : ∀ w ∈ wsX80, w ∈ wsX8_sell := fun w h => List.mem_cons_of_mem _ (List.mem_append_right _ h)
  have fl17 : (Cond.fieldLink RX8 17 "SoupWallModel" "value" "[I").before args s = true := hts _ (List.mem_of_getElem? (l := wsX8_sell) (i := 2) rfl)
  unfold fX8_sell at h
  refine lv_aload_n hx hb dX8_sell_0 rfl (lv_at hl 0 rfl) ?_
  refine va_get (ci := 8) (v := .ref qt_w) (C := RX8) (T := TX8) (N := 35) hx hb hts hiX8 hown hK hP 0 rfl rfl 0 (by decide) fl7 (fun _ h9 => h9) rfl dX8_sell_1 ?_
  refine lv_iload_n hx hb dX8_sell_4 rfl (lv_at hl 1 rfl) ?_
  refine lv_iconst (v := 5) hx hb dX8_sell_5 (by decide) ?_
  refine lv_iadd hx hb dX8_sell_6 ?_
  refine lv_aload_n hx hb dX8_sell_7 rfl (lv_at hl 0 rfl) ?_
  refine va_get (ci := 8) (v := .ref qt_w) (C := RX8) (T := TX8) (N := 35) hx hb hts hiX8 hown hK hP 0 rfl rfl 0 (by decide) fl7 (fun _ h9 => h9) rfl dX8_sell_8 ?_
  refine lv_iload_n hx hb dX8_sell_11 rfl (lv_at hl 1 rfl) ?_
  refine lv_bipush (v := 40) hx hb dX8_sell_12 (by decide) ?_
  refine lv_iadd hx hb dX8_sell_14 ?_
  refine lv_iload_n hx hb dX8_sell_15 rfl (lv_at hl 2 rfl) ?_
  refine lv_iadd hx hb dX8_sell_16 ?_
  replace h := ck_el h
  obtain ⟨hi1, h⟩ := h
  refine va_iald hx hb hK hP 1 0 rfl rfl hi1 dX8_sell_17 ?_
  refine lv_iadd hx hb dX8_sell_18 ?_
  refine lv_dup2_11 hx hb dX8_sell_19 rfl rfl ?_
  replace h := ck_el h
  obtain ⟨hi2, h⟩ := h
  refine va_iald hx hb hK hP 1 0 rfl rfl hi2 dX8_sell_20 ?_
  refine lv_iconst (v := 1) hx hb dX8_sell_21 (by decide) ?_
  refine lv_isub hx hb dX8_sell_22 ?_
  refine lv_topi (fun n3 en3 => ?_)
  replace h := lt_at en3 h
  refine va_iast hx hb hK hP (dF hD rfl) hS 1 0 rfl rfl hi2 dX8_sell_23 (fun H locs hP _ hS => ?_)
  replace hP : va_P D vwCl [(qt, .inr (8, [.ref qt_w, .ref qt_isKept, .ref qt_value, .ref qt_weight, .ref qt_newTube, .ref qt_newPrice, .ref qt_newLow, .ref qt_newHigh, .ref qt_newGoods, .ref qt_rhythm, .ref qt_rhythmLong, .ref qt_slug, .int it_kinds, .int it_columns, .int it_slugs, .int it_newKinds, .int it_newColumns, .int it_newSlugs, .int it_rhythmTold, .ref qt_text, .int it_textSize, .int it_at, .int it_first, .int it_length, .int it_faultOf, .int it_fault, .ref qt_of, .ref qt_buyerColumn, .ref qt_buyerKind, .ref qt_buyerCoins, .int it_buyerMany, .ref qt_tryRow, .ref qt_tryLong, .ref qt_tryFree, .int it_tryMany])), (qt_w, .inl (cI, 240, .inl (upd ft_w (Int32.toNatClampNeg ((x1 + 5) + (ft_w (Int32.toNatClampNeg ((x1 + 40) + x2))))) n3))), (qt_value, .inl (cI, 10, .inl ft_value))] H := hP
  refine lv_aload_n hx hb dX8_sell_24 rfl (lv_at hl 0 rfl) ?_
  refine lv_iload_n hx hb dX8_sell_25 rfl (lv_at hl 1 rfl) ?_
  refine lv_iload_n hx hb dX8_sell_26 rfl (lv_at hl 3 rfl) ?_
  refine lv_iload hx hb dX8_sell_27 (lv_at hl 4 rfl) ?_
  replace h := bd_el h
  obtain ⟨g4, hc5, h⟩ := h
  refine callVV (rest := []) ⟨hx, hb, hml, hown, hts⟩ (ctX8_putIn l D cI cZ cB cS kK kV _ qt qt_w qt_isKept qt_value qt_weight qt_newTube qt_newPrice qt_newLow qt_newHigh qt_newGoods qt_rhythm qt_rhythmLong qt_slug qt_text qt_of qt_buyerColumn qt_buyerKind qt_buyerCoins qt_tryRow qt_tryLong qt_tryFree it_kinds it_columns it_slugs it_newKinds it_newColumns it_newSlugs it_rhythmTold it_textSize it_at it_first it_length it_faultOf it_fault it_buyerMany it_tryMany (upd ft_w (Int32.toNatClampNeg ((x1 + 5) + (ft_w (Int32.toNatClampNeg ((x1 + 40) + x2))))) n3) x1 x3 x4 N g4 hc5) (cwV 3 hts gX8_sell_X8_putIn rfl rfl rfl hdX8_putIn ⟨Nat.le_of_ble_eq_true rfl, Nat.le_of_ble_eq_true rfl⟩) hK hN hX hP (dF hD rfl) hS hA [0, 1] (mcC rfl (mcC rfl mcN)) (by decide +kernel) [(qt, .inr (8, [.ref qt_w, .ref qt_isKept, .ref qt_value, .ref qt_weight, .ref qt_newTube, .ref qt_newPrice, .ref qt_newLow, .ref qt_newHigh, .ref qt_newGoods, .ref qt_rhythm, .ref qt_rhythmLong, .ref qt_slug, .int it_kinds, .int it_columns, .int it_slugs, .int it_newKinds, .int it_newColumns, .int it_newSlugs, .int it_rhythmTold, .ref qt_text, .int it_textSize, .int it_at, .int it_first, .int it_length, .int it_faultOf, .int it_fault, .ref qt_of, .ref qt_buyerColumn, .ref qt_buyerKind, .ref qt_buyerCoins, .int it_buyerMany, .ref qt_tryRow, .ref qt_tryLong, .ref qt_tryFree, .int it_tryMany])), (qt_w, .inl (cI, 240, .inl g4)), (qt_value, .inl (cI, 10, .inl ft_value))] [2] (mcC rfl (mcC rfl mcN)) ((mcC rfl mcN).trans (mcC rfl mcN).symm) 3 rfl (by decide +kernel) (va_recv hK hP (ci := 8) (q0 := 0) rfl rfl) rfl hl.1 rfl (Nat.le_of_ble_eq_true rfl) ⟨Nat.zero_le _, Nat.zero_le _⟩ dX8_sell_29 (fun H locs hP hS => ?_)
  refine lv_aload_n hx hb dX8_sell_32 rfl (lv_at hl 0 rfl) ?_
  refine lv_iload_n hx hb dX8_sell_33 rfl (lv_at hl 1 rfl) ?_
  refine lv_iload hx hb dX8_sell_34 (lv_at hl 4 rfl) ?_
  refine lv_aload_n hx hb dX8_sell_36 rfl (lv_at hl 0 rfl) ?_
  refine va_get (ci := 8) (v := .ref qt_value) (C := RX8) (T := TX8) (N := 35) hx hb hts hiX8 hown hK hP 0 rfl rfl 2 (by decide) fl17 (fun _ h9 => h9) rfl dX8_sell_37 ?_
  refine lv_iload_n hx hb dX8_sell_40 rfl (lv_at hl 3 rfl) ?_
  replace h := ck_el h
  obtain ⟨hi6, h⟩ := h
  refine va_iald hx hb hK hP 2 0 rfl rfl hi6 dX8_sell_41 ?_
  refine lv_imul hx hb dX8_sell_42 ?_
  refine lv_aload_n hx hb dX8_sell_43 rfl (lv_at hl 0 rfl) ?_
  refine va_get (ci := 8) (v := .ref qt_w) (C := RX8) (T := TX8) (N := 35) hx hb hts hiX8 hown hK hP 0 rfl rfl 0 (by decide) fl7 (fun _ h9 => h9) rfl dX8_sell_44 ?_
  refine lv_iload_n hx hb dX8_sell_47 rfl (lv_at hl 1 rfl) ?_
  refine lv_bipush (v := 25) hx hb dX8_sell_48 (by decide) ?_
  refine lv_iadd hx hb dX8_sell_50 ?_
  refine lv_iload_n hx hb dX8_sell_51 rfl (lv_at hl 2 rfl) ?_
  refine lv_iadd hx hb dX8_sell_52 ?_
  replace h := ck_el h
  obtain ⟨hi7, h⟩ := h
  refine va_iald hx hb hK hP 1 0 rfl rfl hi7 dX8_sell_53 ?_
  refine lv_isub hx hb dX8_sell_54 ?_
  replace h := bd_el h
  obtain ⟨⟨r8, g9⟩, hc10, h⟩ := h
  refine callVI (rest := []) ⟨hx, hb, hml, hown, hts⟩ (ctX8_payBack l D cI cZ cB cS kK kV _ qt qt_w qt_isKept qt_value qt_weight qt_newTube qt_newPrice qt_newLow qt_newHigh qt_newGoods qt_rhythm qt_rhythmLong qt_slug qt_text qt_of qt_buyerColumn qt_buyerKind qt_buyerCoins qt_tryRow qt_tryLong qt_tryFree it_kinds it_columns it_slugs it_newKinds it_newColumns it_newSlugs it_rhythmTold it_textSize it_at it_first it_length it_faultOf it_fault it_buyerMany it_tryMany ft_value g4 x1 ((x4 * (ft_value (Int32.toNatClampNeg x3))) - (g4 (Int32.toNatClampNeg ((x1 + 25) + x2)))) N r8 g9 hc10) (cwV 2 hts gX8_sell_X8_payBack rfl rfl rfl hdX8_payBack ⟨Nat.le_of_ble_eq_true rfl, Nat.le_of_ble_eq_true rfl⟩) hK hN hX hP (dF hD rfl) hS hA [0, 2, 1] (mcC rfl (mcC rfl (mcC rfl mcN))) (by decide +kernel) [(qt, .inr (8, [.ref qt_w, .ref qt_isKept, .ref qt_value, .ref qt_weight, .ref qt_newTube, .ref qt_newPrice, .ref qt_newLow, .ref qt_newHigh, .ref qt_newGoods, .ref qt_rhythm, .ref qt_rhythmLong, .ref qt_slug, .int it_kinds, .int it_columns, .int it_slugs, .int it_newKinds, .int it_newColumns, .int it_newSlugs, .int it_rhythmTold, .ref qt_text, .int it_textSize, .int it_at, .int it_first, .int it_length, .int it_faultOf, .int it_fault, .ref qt_of, .ref qt_buyerColumn, .ref qt_buyerKind, .ref qt_buyerCoins, .int it_buyerMany, .ref qt_tryRow, .ref qt_tryLong, .ref qt_tryFree, .int it_tryMany])), (qt_w, .inl (cI, 240, .inl g9)), (qt_value, .inl (cI, 10, .inl ft_value))] [] (mcC rfl (mcC rfl (mcC rfl mcN))) (mcN.trans mcN.symm) 3 rfl (by decide +kernel) (va_recv hK hP (ci := 8) (q0 := 0) rfl rfl) rfl hl.1 rfl (Nat.le_of_ble_eq_true rfl) ⟨Nat.zero_le _, Nat.zero_le _⟩ dX8_sell_55 (fun H locs hP hS => ?_)
  refine lv_istore (lv' := [(5, .int r8), (0, .ref qt), (1, .int x1), (2, .int x2), (3, .int x3), (4, .int x4)]) hx hb dX8_sell_58 hl (by decide) rfl (fun ls hl => ?_)
  refine lv_aload_n hx hb dX8_sell_60 rfl (lv_at hl 1 rfl) ?_
  refine va_get (ci := 8) (v := .ref qt_w) (C := RX8) (T := TX8) (N := 35) hx hb hts hiX8 hown hK hP 0 rfl rfl 0 (by decide) fl7 (fun _ h9 => h9) rfl dX8_sell_61 ?_
  refine lv_iload_n hx hb dX8_sell_64 rfl (lv_at hl 2 rfl) ?_
  refine lv_bipush (v := 46) hx hb dX8_sell_65 (by decide) ?_
  refine lv_iadd hx hb dX8_sell_67 ?_
  refine lv_aload_n hx hb dX8_sell_68 rfl (lv_at hl 1 rfl) ?_
  refine va_get (ci := 8) (v := .ref qt_w) (C := RX8) (T := TX8) (N := 35) hx hb hts hiX8 hown hK hP 0 rfl rfl 0 (by decide) fl7 (fun _ h9 => h9) rfl dX8_sell_69 ?_
  refine lv_iload_n hx hb dX8_sell_72 rfl (lv_at hl 2 rfl) ?_
  refine lv_bipush (v := 46) hx hb dX8_sell_73 (by decide) ?_
  refine lv_iadd hx hb dX8_sell_75 ?_
  replace h := ck_el h
  obtain ⟨hi11, h⟩ := h
  refine va_iald hx hb hK hP 1 0 rfl rfl hi11 dX8_sell_76 ?_
  refine lv_i2l (v := Int32.toInt64 (g9 (Int32.toNatClampNeg (x1 + 46)))) hx hb dX8_sell_77 rfl ?_
  refine lv_iload hx hb dX8_sell_78 (lv_at hl 0 rfl) ?_
  refine lv_i2l (v := Int32.toInt64 r8) hx hb dX8_sell_80 rfl ?_
  refine lv_ladd hx hb dX8_sell_81 ?_
  replace h := bd_el h
  obtain ⟨r12, hc13, h⟩ := h
  refine callSI (rest := [.int (x1 + 46), .ref qt_w]) ⟨hx, hb, hml, hown, hts⟩ (ctX8_held l D cI cZ cB cS kK kV _ ((Int32.toInt64 (g9 (Int32.toNatClampNeg (x1 + 46)))) + (Int32.toInt64 r8)) N r12 hc13) (va_cwS 1 hts gX8_sell_X8_held rfl rfl rfl hdX8_held ⟨Nat.le_of_ble_eq_true rfl, Nat.le_of_ble_eq_true rfl⟩) hK hN hX hP (dF hD rfl) hS hA [] mcN (by decide +kernel) [(qt, .inr (8, [.ref qt_w, .ref qt_isKept, .ref qt_value, .ref qt_weight, .ref qt_newTube, .ref qt_newPrice, .ref qt_newLow, .ref qt_newHigh, .ref qt_newGoods, .ref qt_rhythm, .ref qt_rhythmLong, .ref qt_slug, .int it_kinds, .int it_columns, .int it_slugs, .int it_newKinds, .int it_newColumns, .int it_newSlugs, .int it_rhythmTold, .ref qt_text, .int it_textSize, .int it_at, .int it_first, .int it_length, .int it_faultOf, .int it_fault, .ref qt_of, .ref qt_buyerColumn, .ref qt_buyerKind, .ref qt_buyerCoins, .int it_buyerMany, .ref qt_tryRow, .ref qt_tryLong, .ref qt_tryFree, .int it_tryMany])), (qt_w, .inl (cI, 240, .inl g9)), (qt_value, .inl (cI, 10, .inl ft_value))] [0, 1, 2] mcN ((mcC rfl (mcC rfl (mcC rfl mcN))).trans (mcC rfl (mcC rfl (mcC rfl mcN))).symm) 3 rfl (by decide +kernel) rfl hl.1 rfl (Nat.le_of_ble_eq_true rfl) ⟨Nat.zero_le _, Nat.zero_le _⟩ dX8_sell_82 (fun H locs hP hS => ?_)
  refine va_iast hx hb hK hP (dF hD rfl) hS 1 0 rfl rfl hi11 dX8_sell_85 (fun H locs hP _ hS => ?_)
  replace hP : va_P D vwCl [(qt, .inr (8, [.ref qt_w, .ref qt_isKept, .ref qt_value, .ref qt_weight, .ref qt_newTube, .ref qt_newPrice, .ref qt_newLow, .ref qt_newHigh, .ref qt_newGoods, .ref qt_rhythm, .ref qt_rhythmLong, .ref qt_slug, .int it_kinds, .int it_columns, .int it_slugs, .int it_newKinds, .int it_newColumns, .int it_newSlugs, .int it_rhythmTold, .ref qt_text, .int it_textSize, .int it_at, .int it_first, .int it_length, .int it_faultOf, .int it_fault, .ref qt_of, .ref qt_buyerColumn, .ref qt_buyerKind, .ref qt_buyerCoins, .int it_buyerMany, .ref qt_tryRow, .ref qt_tryLong, .ref qt_tryFree, .int it_tryMany])), (qt_w, .inl (cI, 240, .inl (upd g9 (Int32.toNatClampNeg (x1 + 46)) r12))), (qt_value, .inl (cI, 10, .inl ft_value))] H := hP
  refine lv_aload_n hx hb dX8_sell_86 rfl (lv_at hl 1 rfl) ?_
  refine va_get (ci := 8) (v := .ref qt_w) (C := RX8) (T := TX8) (N := 35) hx hb hts hiX8 hown hK hP 0 rfl rfl 0 (by decide) fl7 (fun _ h9 => h9) rfl dX8_sell_87 ?_
  refine lv_iload_n hx hb dX8_sell_90 rfl (lv_at hl 2 rfl) ?_
  refine lv_bipush (v := 47) hx hb dX8_sell_91 (by decide) ?_
  refine lv_iadd hx hb dX8_sell_93 ?_
  refine lv_aload_n hx hb dX8_sell_94 rfl (lv_at hl 1 rfl) ?_
  refine va_get (ci := 8) (v := .ref qt_w) (C := RX8) (T := TX8) (N := 35) hx hb hts hiX8 hown hK hP 0 rfl rfl 0 (by decide) fl7 (fun _ h9 => h9) rfl dX8_sell_95 ?_
  refine lv_iload_n hx hb dX8_sell_98 rfl (lv_at hl 2 rfl) ?_
  refine lv_bipush (v := 47) hx hb dX8_sell_99 (by decide) ?_
  refine lv_iadd hx hb dX8_sell_101 ?_
  replace h := ck_el h
  obtain ⟨hi14, h⟩ := h
  refine va_iald hx hb hK hP 1 0 rfl rfl hi14 dX8_sell_102 ?_
  refine lv_i2l (v := Int32.toInt64 ((upd g9 (Int32.toNatClampNeg (x1 + 46)) r12) (Int32.toNatClampNeg (x1 + 47)))) hx hb dX8_sell_103 rfl ?_
  refine lv_lconst (v := 1) hx hb dX8_sell_104 (by decide) ?_
  refine lv_ladd hx hb dX8_sell_105 ?_
  replace h := bd_el h
  obtain ⟨r15, hc16, h⟩ := h
  refine callSI (rest := [.int (x1 + 47), .ref qt_w]) ⟨hx, hb, hml, hown, hts⟩ (ctX8_held l D cI cZ cB cS kK kV _ ((Int32.toInt64 ((upd g9 (Int32.toNatClampNeg (x1 + 46)) r12) (Int32.toNatClampNeg (x1 + 47)))) + 1) N r15 hc16) (va_cwS 1 hts gX8_sell_X8_held rfl rfl rfl hdX8_held ⟨Nat.le_of_ble_eq_true rfl, Nat.le_of_ble_eq_true rfl⟩) hK hN hX hP (dF hD rfl) hS hA [] mcN (by decide +kernel) [(qt, .inr (8, [.ref qt_w, .ref qt_isKept, .ref qt_value, .ref qt_weight, .ref qt_newTube, .ref qt_newPrice, .ref qt_newLow, .ref qt_newHigh, .ref qt_newGoods, .ref qt_rhythm, .ref qt_rhythmLong, .ref qt_slug, .int it_kinds, .int it_columns, .int it_slugs, .int it_newKinds, .int it_newColumns, .int it_newSlugs, .int it_rhythmTold, .ref qt_text, .int it_textSize, .int it_at, .int it_first, .int it_length, .int it_faultOf, .int it_fault, .ref qt_of, .ref qt_buyerColumn, .ref qt_buyerKind, .ref qt_buyerCoins, .int it_buyerMany, .ref qt_tryRow, .ref qt_tryLong, .ref qt_tryFree, .int it_tryMany])), (qt_w, .inl (cI, 240, .inl (upd g9 (Int32.toNatClampNeg (x1 + 46)) r12))), (qt_value, .inl (cI, 10, .inl ft_value))] [0, 1, 2] mcN ((mcC rfl (mcC rfl (mcC rfl mcN))).trans (mcC rfl (mcC rfl (mcC rfl mcN))).symm) 3 rfl (by decide +kernel) rfl hl.1 rfl (Nat.le_of_ble_eq_true rfl) ⟨Nat.zero_le _, Nat.zero_le _⟩ dX8_sell_106 (fun H locs hP hS => ?_)
  refine va_iast hx hb hK hP (dF hD rfl) hS 1 0 rfl rfl hi14 dX8_sell_109 (fun H locs hP _ hS => ?_)
  replace hP : va_P D vwCl [(qt, .inr (8, [.ref qt_w, .ref qt_isKept, .ref qt_value, .ref qt_weight, .ref qt_newTube, .ref qt_newPrice, .ref qt_newLow, .ref qt_newHigh, .ref qt_newGoods, .ref qt_rhythm, .ref qt_rhythmLong, .ref qt_slug, .int it_kinds, .int it_columns, .int it_slugs, .int it_newKinds, .int it_newColumns, .int it_newSlugs, .int it_rhythmTold, .ref qt_text, .int it_textSize, .int it_at, .int it_first, .int it_length, .int it_faultOf, .int it_fault, .ref qt_of, .ref qt_buyerColumn, .ref qt_buyerKind, .ref qt_buyerCoins, .int it_buyerMany, .ref qt_tryRow, .ref qt_tryLong, .ref qt_tryFree, .int it_tryMany])), (qt_w, .inl (cI, 240, .inl (upd (upd g9 (Int32.toNatClampNeg (x1 + 46)) r12) (Int32.toNatClampNeg (x1 + 47)) r15))), (qt_value, .inl (cI, 10, .inl ft_value))] H := hP
  refine lv_aload_n hx hb dX8_sell_110 rfl (lv_at hl 1 rfl) ?_
  refine va_get (ci := 8) (v := .ref qt_w) (C := RX8) (T := TX8) (N := 35) hx hb hts hiX8 hown hK hP 0 rfl rfl 0 (by decide) fl7 (fun _ h9 => h9) rfl dX8_sell_111 ?_
  refine lv_iload_n hx hb dX8_sell_114 rfl (lv_at hl 2 rfl) ?_
  refine lv_bipush (v := 10) hx hb dX8_sell_115 (by decide) ?_
  refine lv_iadd hx hb dX8_sell_117 ?_
  refine lv_iload_n hx hb dX8_sell_118 rfl (lv_at hl 3 rfl) ?_
  refine lv_iadd hx hb dX8_sell_119 ?_
  refine lv_dup2_11 hx hb dX8_sell_120 rfl rfl ?_
  replace h := ck_el h
  obtain ⟨hi17, h⟩ := h
  refine va_iald hx hb hK hP 1 0 rfl rfl hi17 dX8_sell_121 ?_
  refine lv_aload_n hx hb dX8_sell_122 rfl (lv_at hl 1 rfl) ?_
  refine va_get (ci := 8) (v := .ref qt_w) (C := RX8) (T := TX8) (N := 35) hx hb hts hiX8 hown hK hP 0 rfl rfl 0 (by decide) fl7 (fun _ h9 => h9) rfl dX8_sell_123 ?_
  refine lv_iload_n hx hb dX8_sell_126 rfl (lv_at hl 2 rfl) ?_
  refine lv_bipush (v := 48) hx hb dX8_sell_127 (by decide) ?_
  refine lv_iadd hx hb dX8_sell_129 ?_
  replace h := ck_el h
  obtain ⟨hi18, h⟩ := h
  refine va_iald hx hb hK hP 1 0 rfl rfl hi18 dX8_sell_130 ?_
  refine lv_iload hx hb dX8_sell_131 (lv_at hl 5 rfl) ?_
  refine lv_imul hx hb dX8_sell_133 ?_
  refine lv_iadd hx hb dX8_sell_134 ?_
  refine lv_topi (fun n19 en19 => ?_)
  replace h := lt_at en19 h
  refine va_iast hx hb hK hP (dF hD rfl) hS 1 0 rfl rfl hi17 dX8_sell_135 (fun H locs hP _ hS => ?_)
  replace hP : va_P D vwCl [(qt, .inr (8, [.ref qt_w, .ref qt_isKept, .ref qt_value, .ref qt_weight, .ref qt_newTube, .ref qt_newPrice, .ref qt_newLow, .ref qt_newHigh, .ref qt_newGoods, .ref qt_rhythm, .ref qt_rhythmLong, .ref qt_slug, .int it_kinds, .int it_columns, .int it_slugs, .int it_newKinds, .int it_newColumns, .int it_newSlugs, .int it_rhythmTold, .ref qt_text, .int it_textSize, .int it_at, .int it_first, .int it_length, .int it_faultOf, .int it_fault, .ref qt_of, .ref qt_buyerColumn, .ref qt_buyerKind, .ref qt_buyerCoins, .int it_buyerMany, .ref qt_tryRow, .ref qt_tryLong, .ref qt_tryFree, .int it_tryMany])), (qt_w, .inl (cI, 240, .inl (upd (upd (upd g9 (Int32.toNatClampNeg (x1 + 46)) r12) (Int32.toNatClampNeg (x1 + 47)) r15) (Int32.toNatClampNeg ((x1 + 10) + x2)) n19))), (qt_value, .inl (cI, 10, .inl ft_value))] H := hP
  refine lv_aload_n hx hb dX8_sell_136 rfl (lv_at hl 1 rfl) ?_
  refine va_get (ci := 8) (v := .ref qt_w) (C := RX8) (T := TX8) (N := 35) hx hb hts hiX8 hown hK hP 0 rfl rfl 0 (by decide) fl7 (fun _ h9 => h9) rfl dX8_sell_137 ?_
  refine lv_iload_n hx hb dX8_sell_140 rfl (lv_at hl 2 rfl) ?_
  refine lv_bipush (v := 15) hx hb dX8_sell_141 (by decide) ?_
  refine lv_iadd hx hb dX8_sell_143 ?_
  refine lv_iload_n hx hb dX8_sell_144 rfl (lv_at hl 3 rfl) ?_
  refine lv_iadd hx hb dX8_sell_145 ?_
  refine lv_iconst (v := 0) hx hb dX8_sell_146 (by decide) ?_
  replace h := ck_el h
  obtain ⟨hi20, h⟩ := h
  refine va_iast hx hb hK hP (dF hD rfl) hS 1 0 rfl rfl hi20 dX8_sell_147 (fun H locs hP _ hS => ?_)
  replace hP : va_P D vwCl [(qt, .inr (8, [.ref qt_w, .ref qt_isKept, .ref qt_value, .ref qt_weight, .ref qt_newTube, .ref qt_newPrice, .ref qt_newLow, .ref qt_newHigh, .ref qt_newGoods, .ref qt_rhythm, .ref qt_rhythmLong, .ref qt_slug, .int it_kinds, .int it_columns, .int it_slugs, .int it_newKinds, .int it_newColumns, .int it_newSlugs, .int it_rhythmTold, .ref qt_text, .int it_textSize, .int it_at, .int it_first, .int it_length, .int it_faultOf, .int it_fault, .ref qt_of, .ref qt_buyerColumn, .ref qt_buyerKind, .ref qt_buyerCoins, .int it_buyerMany, .ref qt_tryRow, .ref qt_tryLong, .ref qt_tryFree, .int it_tryMany])), (qt_w, .inl (cI, 240, .inl (upd (upd (upd (upd g9 (Int32.toNatClampNeg (x1 + 46)) r12) (Int32.toNatClampNeg (x1 + 47)) r15) (Int32.toNatClampNeg ((x1 + 10) + x2)) n19) (Int32.toNatClampNeg ((x1 + 15) + x2)) 0))), (qt_value, .inl (cI, 10, .inl ft_value))] H := hP
  refine lv_aload_n hx hb dX8_sell_148 rfl (lv_at hl 1 rfl) ?_
  refine va_get (ci := 8) (v := .ref qt_w) (C := RX8) (T := TX8) (N := 35) hx hb hts hiX8 hown hK hP 0 rfl rfl 0 (by decide) fl7 (fun _ h9 => h9) rfl dX8_sell_149 ?_
  refine lv_iload_n hx hb dX8_sell_152 rfl (lv_at hl 2 rfl) ?_
  refine lv_bipush (v := 20) hx hb dX8_sell_153 (by decide) ?_
  refine lv_iadd hx hb dX8_sell_155 ?_
  refine lv_iload_n hx hb dX8_sell_156 rfl (lv_at hl 3 rfl) ?_
  refine lv_iadd hx hb dX8_sell_157 ?_
  refine lv_iconst (v := 0) hx hb dX8_sell_158 (by decide) ?_
  replace h := ck_el h
  obtain ⟨hi21, h⟩ := h
  refine va_iast hx hb hK hP (dF hD rfl) hS 1 0 rfl rfl hi21 dX8_sell_159 (fun H locs hP _ hS => ?_)
  replace hP : va_P D vwCl [(qt, .inr (8, [.ref qt_w, .ref qt_isKept, .ref qt_value, .ref qt_weight, .ref qt_newTube, .ref qt_newPrice, .ref qt_newLow, .ref qt_newHigh, .ref qt_newGoods, .ref qt_rhythm, .ref qt_rhythmLong, .ref qt_slug, .int it_kinds, .int it_columns, .int it_slugs, .int it_newKinds, .int it_newColumns, .int it_newSlugs, .int it_rhythmTold, .ref qt_text, .int it_textSize, .int it_at, .int it_first, .int it_length, .int it_faultOf, .int it_fault, .ref qt_of, .ref qt_buyerColumn, .ref qt_buyerKind, .ref qt_buyerCoins, .int it_buyerMany, .ref qt_tryRow, .ref qt_tryLong, .ref qt_tryFree, .int it_tryMany])), (qt_w, .inl (cI, 240, .inl (upd (upd (upd (upd (upd g9 (Int32.toNatClampNeg (x1 + 46)) r12) (Int32.toNatClampNeg (x1 + 47)) r15) (Int32.toNatClampNeg ((x1 + 10) + x2)) n19) (Int32.toNatClampNeg ((x1 + 15) + x2)) 0) (Int32.toNatClampNeg ((x1 + 20) + x2)) 0))), (qt_value, .inl (cI, 10, .inl ft_value))] H := hP
  refine lv_iload hx hb dX8_sell_160 (lv_at hl 0 rfl) ?_
  simp only [Option.some.injEq, Prod.mk.injEq] at h
  obtain ⟨rfl, rfl⟩ := h
  exact hret _ _ _ _ hP hS rfl dX8_sell_162
theorem hdX8_sell : yX8_sell.cls = RX8 ∧ yX8_sell.cls ≠ "java/lang/invoke/MethodHandle" ∧ yX8_sell.cls ≠ "java/lang/invoke/VarHandle" ∧ (parseMethodDescriptor yX8_sell.desc).map (fun d => d.parameters.length) = some 4 := by decide +kernel

noncomputable def fX8_buy (N : Nat) (it_kinds : Int32) (it_columns : Int32) (ft_w : Nat → Int32) (ft_weight : Nat → Int32) (ft_value : Nat → Int32) (x1 : Int32) (x2 : Int32) (x3 : Int32) : Option (Int32 × (Nat → Int32)) := bd (fX8_isColumn N it_columns x1) fun r1 => (if r1 = 0 then some ((-1000000001), ft_w) else bd (fX8_isKind N it_kinds x2) fun r4 => (if r4 = 0 then some ((-1000000001), ft_w) else bd (fX8_in N (Int32.toInt64 x3) 1 99) fun r7 => (if r7 = 0 then some ((-1000000002), ft_w) else bd (fX8_canBuy N ft_w ft_weight ft_value 0 x1 x2 x3) fun r10 => (if r10 = 0 then some ((-1000000003), ft_w) else ck x2 10 (ck (25 + x1) 240 (lt ((x3 * (ft_value (Int32.toNatClampNeg x2))) - (ft_w (Int32.toNatClampNeg (25 + x1)))) fun n15 => bd (fX8_sell N it_kinds ft_w ft_value 0 x1 x2 x3) fun (r16, g17) => lt (n15 - r16) fun n19 => some (n19, g17)))))))
set_option maxHeartbeats 4000000 in
set_option maxRecDepth 100000 in
theorem ctX8_buy (l : Launch) (D : va_G) (cI cZ cB cS : ClassId) (kK kV : Nat → Nat) (sz : Nat) (qt qt_w qt_isKept qt_value qt_weight qt_newTube qt_newPrice qt_newLow qt_newHigh qt_newGoods qt_rhythm qt_rhythmLong qt_slug qt_text qt_of qt_buyerColumn qt_buyerKind qt_buyerCoins qt_tryRow qt_tryLong qt_tryFree : Nat) (it_kinds : Int32) (it_columns : Int32) (it_slugs : Int32) (it_newKinds : Int32) (it_newColumns : Int32) (it_newSlugs : Int32) (it_rhythmTold : Int32) (it_textSize : Int32) (it_at : Int32) (it_first : Int32) (it_length : Int32) (it_faultOf : Int32) (it_fault : Int32) (it_buyerMany : Int32) (it_tryMany : Int32) (ft_w : Nat → Int32) (ft_weight : Nat → Int32) (ft_value : Nat → Int32) (x1 : Int32) (x2 : Int32) (x3 : Int32) (N : Nat) (r0 : Int32) (w_ft_w : Nat → Int32) (h : fX8_buy N it_kinds it_columns ft_w ft_weight ft_value x1 x2 x3 = some (r0, w_ft_w)) : CtI l yX8_buy wsX8_buy { frames := 4, cells := 0, slots := 0, locals := 96 } D (TY cI cZ cB cS) kK kV [.ref qt, .int x1, .int x2, .int x3] [(qt, .inr (8, [.ref qt_w, .ref qt_isKept, .ref qt_value, .ref qt_weight, .ref qt_newTube, .ref qt_newPrice, .ref qt_newLow, .ref qt_newHigh, .ref qt_newGoods, .ref qt_rhythm, .ref qt_rhythmLong, .ref qt_slug, .int it_kinds, .int it_columns, .int it_slugs, .int it_newKinds, .int it_newColumns, .int it_newSlugs, .int it_rhythmTold, .ref qt_text, .int it_textSize, .int it_at, .int it_first, .int it_length, .int it_faultOf, .int it_fault, .ref qt_of, .ref qt_buyerColumn, .ref qt_buyerKind, .ref qt_buyerCoins, .int it_buyerMany, .ref qt_tryRow, .ref qt_tryLong, .ref qt_tryFree, .int it_tryMany])), (qt_w, .inl (cI, 240, .inl ft_w)), (qt_weight, .inl (cI, 10, .inl ft_weight)), (qt_value, .inl (cI, 10, .inl ft_value))] [(qt, .inr (8, [.ref qt_w, .ref qt_isKept, .ref qt_value, .ref qt_weight, .ref qt_newTube, .ref qt_newPrice, .ref qt_newLow, .ref qt_newHigh, .ref qt_newGoods, .ref qt_rhythm, .ref qt_rhythmLong, .ref qt_slug, .int it_kinds, .int it_columns, .int it_slugs, .int it_newKinds, .int it_newColumns, .int it_newSlugs, .int it_rhythmTold, .ref qt_text, .int it_textSize, .int it_at, .int it_first, .int it_length, .int it_faultOf, .int it_fault, .ref qt_of, .ref qt_buyerColumn, .ref qt_buyerKind, .ref qt_buyerCoins, .int it_buyerMany, .ref qt_tryRow, .ref qt_tryLong, .ref qt_tryFree, .int it_tryMany])), (qt_w, .inl (cI, 240, .inl w_ft_w)), (qt_weight, .inl (cI, 10, .inl ft_weight)), (qt_value, .inl (cI, 10, .inl ft_value))] sz r0 := by
  refine mkI (cc := cX8_buy) (maxL := 5) (rt := .int) (own := RX8) (by decide) rfl rfl (Nat.le_of_ble_eq_true rfl) ?_
  intro p e s m args below meth c A Z ls hx hb hml hown hts hK hN hX hP hD hA hS hret hl
  have hl : lv_has ls 5 [(0, .ref qt), (1, .int x1), (2, .int x2), (3, .int x3)] := hl
  have cn193 : (Cond.constant RX8 193 (-1000000001)).before args s = true := hts _ (List.mem_of_getElem? (l := wsX8_buy) (i := 1) rfl)
  have cn222 : (Cond.constantLong RX8 222 (99)).before args s = true := hts _ (List.mem_of_getElem? (l := wsX8_buy) (i := 2) rfl)
  have fl17 : (Cond.fieldLink RX8 17 "SoupWallModel" "value" "[I").before args s = true := hts _ (List.mem_of_getElem? (l := wsX8_buy) (i := 5) rfl)
  have hiX8 : ∀ w ∈ wsX80, w ∈ wsX8_buy := fun w h => List.mem_cons_of_mem _ (List.mem_append_right _ h)
  have fl7 : (Cond.fieldLink RX8 7 "SoupWallModel" "w" "[I").before args s = true := hts _ (List.mem_of_getElem? (l := wsX8_buy) (i := 6) rfl)
  have cn228 : (Cond.constant RX8 228 (-1000000003)).before args s = true := hts _ (List.mem_of_getElem? (l := wsX8_buy) (i := 4) rfl)
  have cn81 : (Cond.constant RX8 81 (-1000000002)).before args s = true := hts _ (List.mem_of_getElem? (l := wsX8_buy) (i := 3) rfl)
  unfold fX8_buy at h
  refine lv_aload_n hx hb dX8_buy_0 rfl (lv_at hl 0 rfl) ?_
  refine lv_iload_n hx hb dX8_buy_1 rfl (lv_at hl 1 rfl) ?_
  replace h := bd_el h
  obtain ⟨r1, hc2, h⟩ := h
  refine callVI (rest := []) ⟨hx, hb, hml, hown, hts⟩ (ctX8_isColumn l D cI cZ cB cS kK kV _ qt qt_w qt_isKept qt_value qt_weight qt_newTube qt_newPrice qt_newLow qt_newHigh qt_newGoods qt_rhythm qt_rhythmLong qt_slug qt_text qt_of qt_buyerColumn qt_buyerKind qt_buyerCoins qt_tryRow qt_tryLong qt_tryFree it_kinds it_columns it_slugs it_newKinds it_newColumns it_newSlugs it_rhythmTold it_textSize it_at it_first it_length it_faultOf it_fault it_buyerMany it_tryMany x1 N r1 hc2) (cwV 1 hts gX8_buy_X8_isColumn rfl rfl rfl hdX8_isColumn ⟨Nat.le_of_ble_eq_true rfl, Nat.le_of_ble_eq_true rfl⟩) hK hN hX hP (dF hD rfl) hS hA [0] (mcC rfl mcN) (by decide +kernel) [(qt, .inr (8, [.ref qt_w, .ref qt_isKept, .ref qt_value, .ref qt_weight, .ref qt_newTube, .ref qt_newPrice, .ref qt_newLow, .ref qt_newHigh, .ref qt_newGoods, .ref qt_rhythm, .ref qt_rhythmLong, .ref qt_slug, .int it_kinds, .int it_columns, .int it_slugs, .int it_newKinds, .int it_newColumns, .int it_newSlugs, .int it_rhythmTold, .ref qt_text, .int it_textSize, .int it_at, .int it_first, .int it_length, .int it_faultOf, .int it_fault, .ref qt_of, .ref qt_buyerColumn, .ref qt_buyerKind, .ref qt_buyerCoins, .int it_buyerMany, .ref qt_tryRow, .ref qt_tryLong, .ref qt_tryFree, .int it_tryMany])), (qt_w, .inl (cI, 240, .inl ft_w)), (qt_weight, .inl (cI, 10, .inl ft_weight)), (qt_value, .inl (cI, 10, .inl ft_value))] [1, 2, 3] (mcC rfl mcN) ((mcC rfl (mcC rfl (mcC rfl mcN))).trans (mcC rfl (mcC rfl (mcC rfl mcN))).symm) 4 rfl (by decide +kernel) (va_recv hK hP (ci := 8) (q0 := 0) rfl rfl) rfl hl.1 rfl (Nat.le_of_ble_eq_true rfl) ⟨Nat.zero_le _, Nat.zero_le _⟩ dX8_buy_2 (fun H locs hP hS => ?_)
  refine lv_if_eq (tgt := 16) hx hb dX8_buy_5 (by decide) (fun c3 => ?_) (fun c3 => ?_)
  · replace h := if_t c3 h
    refine lv_ldc (v := (-1000000001)) hx hb hown cn193 dX8_buy_16 ?_
    simp only [Option.some.injEq, Prod.mk.injEq] at h
    obtain ⟨rfl, rfl⟩ := h
    exact hret _ _ _ _ hP hS rfl dX8_buy_18
  · replace h := if_f c3 h
    refine lv_aload_n hx hb dX8_buy_8 rfl (lv_at hl 0 rfl) ?_
    refine lv_iload_n hx hb dX8_buy_9 rfl (lv_at hl 2 rfl) ?_
    replace h := bd_el h
    obtain ⟨r4, hc5, h⟩ := h
    refine callVI (rest := []) ⟨hx, hb, hml, hown, hts⟩ (ctX8_isKind l D cI cZ cB cS kK kV _ qt qt_w qt_isKept qt_value qt_weight qt_newTube qt_newPrice qt_newLow qt_newHigh qt_newGoods qt_rhythm qt_rhythmLong qt_slug qt_text qt_of qt_buyerColumn qt_buyerKind qt_buyerCoins qt_tryRow qt_tryLong qt_tryFree it_kinds it_columns it_slugs it_newKinds it_newColumns it_newSlugs it_rhythmTold it_textSize it_at it_first it_length it_faultOf it_fault it_buyerMany it_tryMany x2 N r4 hc5) (cwV 1 hts gX8_buy_X8_isKind rfl rfl rfl hdX8_isKind ⟨Nat.le_of_ble_eq_true rfl, Nat.le_of_ble_eq_true rfl⟩) hK hN hX hP (dF hD rfl) hS hA [0] (mcC rfl mcN) (by decide +kernel) [(qt, .inr (8, [.ref qt_w, .ref qt_isKept, .ref qt_value, .ref qt_weight, .ref qt_newTube, .ref qt_newPrice, .ref qt_newLow, .ref qt_newHigh, .ref qt_newGoods, .ref qt_rhythm, .ref qt_rhythmLong, .ref qt_slug, .int it_kinds, .int it_columns, .int it_slugs, .int it_newKinds, .int it_newColumns, .int it_newSlugs, .int it_rhythmTold, .ref qt_text, .int it_textSize, .int it_at, .int it_first, .int it_length, .int it_faultOf, .int it_fault, .ref qt_of, .ref qt_buyerColumn, .ref qt_buyerKind, .ref qt_buyerCoins, .int it_buyerMany, .ref qt_tryRow, .ref qt_tryLong, .ref qt_tryFree, .int it_tryMany])), (qt_w, .inl (cI, 240, .inl ft_w)), (qt_weight, .inl (cI, 10, .inl ft_weight)), (qt_value, .inl (cI, 10, .inl ft_value))] [1, 2, 3] (mcC rfl mcN) ((mcC rfl (mcC rfl (mcC rfl mcN))).trans (mcC rfl (mcC rfl (mcC rfl mcN))).symm) 4 rfl (by decide +kernel) (va_recv hK hP (ci := 8) (q0 := 0) rfl rfl) rfl hl.1 rfl (Nat.le_of_ble_eq_true rfl) ⟨Nat.zero_le _, Nat.zero_le _⟩ dX8_buy_10 (fun H locs hP hS => ?_)
    refine lv_if_ne (tgt := 19) hx hb dX8_buy_13 (by decide) (fun c6 => ?_) (fun c6 => ?_)
    · replace h := if_f c6 h
      refine lv_iload_n hx hb dX8_buy_19 rfl (lv_at hl 3 rfl) ?_
      refine lv_i2l (v := Int32.toInt64 x3) hx hb dX8_buy_20 rfl ?_
      refine lv_lconst (v := 1) hx hb dX8_buy_21 (by decide) ?_
      refine lv_ldc2 (v := 99) hx hb hown cn222 dX8_buy_22 ?_
      replace h := bd_el h
      obtain ⟨r7, hc8, h⟩ := h
      refine callSI (rest := []) ⟨hx, hb, hml, hown, hts⟩ (ctX8_in l D cI cZ cB cS kK kV _ (Int32.toInt64 x3) 1 99 N r7 hc8) (va_cwS 3 hts gX8_buy_X8_in rfl rfl rfl hdX8_in ⟨Nat.le_of_ble_eq_true rfl, Nat.le_of_ble_eq_true rfl⟩) hK hN hX hP (dF hD rfl) hS hA [] mcN (by decide +kernel) [(qt, .inr (8, [.ref qt_w, .ref qt_isKept, .ref qt_value, .ref qt_weight, .ref qt_newTube, .ref qt_newPrice, .ref qt_newLow, .ref qt_newHigh, .ref qt_newGoods, .ref qt_rhythm, .ref qt_rhythmLong, .ref qt_slug, .int it_kinds, .int it_columns, .int it_slugs, .int it_newKinds, .int it_newColumns, .int it_newSlugs, .int it_rhythmTold, .ref qt_text, .int it_textSize, .int it_at, .int it_first, .int it_length, .int it_faultOf, .int it_fault, .ref qt_of, .ref qt_buyerColumn, .ref qt_buyerKind, .ref qt_buyerCoins, .int it_buyerMany, .ref qt_tryRow, .ref qt_tryLong, .ref qt_tryFree, .int it_tryMany])), (qt_w, .inl (cI, 240, .inl ft_w)), (qt_weight, .inl (cI, 10, .inl ft_weight)), (qt_value, .inl (cI, 10, .inl ft_value))] [0, 1, 2, 3] mcN ((mcC rfl (mcC rfl (mcC rfl (mcC rfl mcN)))).trans (mcC rfl (mcC rfl (mcC rfl (mcC rfl mcN)))).symm) 4 rfl (by decide +kernel) rfl hl.1 rfl (Nat.le_of_ble_eq_true rfl) ⟨Nat.zero_le _, Nat.zero_le _⟩ dX8_buy_25 (fun H locs hP hS => ?_)
      refine lv_if_ne (tgt := 34) hx hb dX8_buy_28 (by decide) (fun c9 => ?_) (fun c9 => ?_)
      · replace h := if_f c9 h
        refine lv_aload_n hx hb dX8_buy_34 rfl (lv_at hl 0 rfl) ?_
        refine lv_iconst (v := 0) hx hb dX8_buy_35 (by decide) ?_
        refine lv_iload_n hx hb dX8_buy_36 rfl (lv_at hl 1 rfl) ?_
        refine lv_iload_n hx hb dX8_buy_37 rfl (lv_at hl 2 rfl) ?_
        refine lv_iload_n hx hb dX8_buy_38 rfl (lv_at hl 3 rfl) ?_
        replace h := bd_el h
        obtain ⟨r10, hc11, h⟩ := h
        refine callVI (rest := []) ⟨hx, hb, hml, hown, hts⟩ (ctX8_canBuy l D cI cZ cB cS kK kV _ qt qt_w qt_isKept qt_value qt_weight qt_newTube qt_newPrice qt_newLow qt_newHigh qt_newGoods qt_rhythm qt_rhythmLong qt_slug qt_text qt_of qt_buyerColumn qt_buyerKind qt_buyerCoins qt_tryRow qt_tryLong qt_tryFree it_kinds it_columns it_slugs it_newKinds it_newColumns it_newSlugs it_rhythmTold it_textSize it_at it_first it_length it_faultOf it_fault it_buyerMany it_tryMany ft_w ft_weight ft_value 0 x1 x2 x3 N r10 hc11) (cwV 4 hts gX8_buy_X8_canBuy rfl rfl rfl hdX8_canBuy ⟨Nat.le_of_ble_eq_true rfl, Nat.le_of_ble_eq_true rfl⟩) hK hN hX hP (dF hD rfl) hS hA [0, 1, 2, 3] (mcC rfl (mcC rfl (mcC rfl (mcC rfl mcN)))) (by decide +kernel) [(qt, .inr (8, [.ref qt_w, .ref qt_isKept, .ref qt_value, .ref qt_weight, .ref qt_newTube, .ref qt_newPrice, .ref qt_newLow, .ref qt_newHigh, .ref qt_newGoods, .ref qt_rhythm, .ref qt_rhythmLong, .ref qt_slug, .int it_kinds, .int it_columns, .int it_slugs, .int it_newKinds, .int it_newColumns, .int it_newSlugs, .int it_rhythmTold, .ref qt_text, .int it_textSize, .int it_at, .int it_first, .int it_length, .int it_faultOf, .int it_fault, .ref qt_of, .ref qt_buyerColumn, .ref qt_buyerKind, .ref qt_buyerCoins, .int it_buyerMany, .ref qt_tryRow, .ref qt_tryLong, .ref qt_tryFree, .int it_tryMany])), (qt_w, .inl (cI, 240, .inl ft_w)), (qt_weight, .inl (cI, 10, .inl ft_weight)), (qt_value, .inl (cI, 10, .inl ft_value))] [] (mcC rfl (mcC rfl (mcC rfl (mcC rfl mcN)))) (mcN.trans mcN.symm) 4 rfl (by decide +kernel) (va_recv hK hP (ci := 8) (q0 := 0) rfl rfl) rfl hl.1 rfl (Nat.le_of_ble_eq_true rfl) ⟨Nat.zero_le _, Nat.zero_le _⟩ dX8_buy_39 (fun H locs hP hS => ?_)
        refine lv_if_ne (tgt := 48) hx hb dX8_buy_42 (by decide) (fun c12 => ?_) (fun c12 => ?_)
        · replace h := if_f c12 h
          refine lv_iload_n hx hb dX8_buy_48 rfl (lv_at hl 3 rfl) ?_
          refine lv_aload_n hx hb dX8_buy_49 rfl (lv_at hl 0 rfl) ?_
          refine va_get (ci := 8) (v := .ref qt_value) (C := RX8) (T := TX8) (N := 35) hx hb hts hiX8 hown hK hP 0 rfl rfl 2 (by decide) fl17 (fun _ h9 => h9) rfl dX8_buy_50 ?_
          refine lv_iload_n hx hb dX8_buy_53 rfl (lv_at hl 2 rfl) ?_
          replace h := ck_el h
          obtain ⟨hi13, h⟩ := h
          refine va_iald hx hb hK hP 3 0 rfl rfl hi13 dX8_buy_54 ?_
          refine lv_imul hx hb dX8_buy_55 ?_
          refine lv_aload_n hx hb dX8_buy_56 rfl (lv_at hl 0 rfl) ?_
          refine va_get (ci := 8) (v := .ref qt_w) (C := RX8) (T := TX8) (N := 35) hx hb hts hiX8 hown hK hP 0 rfl rfl 0 (by decide) fl7 (fun _ h9 => h9) rfl dX8_buy_57 ?_
          refine lv_bipush (v := 25) hx hb dX8_buy_60 (by decide) ?_
          refine lv_iload_n hx hb dX8_buy_62 rfl (lv_at hl 1 rfl) ?_
          refine lv_iadd hx hb dX8_buy_63 ?_
          replace h := ck_el h
          obtain ⟨hi14, h⟩ := h
          refine va_iald hx hb hK hP 1 0 rfl rfl hi14 dX8_buy_64 ?_
          refine lv_isub hx hb dX8_buy_65 ?_
          refine lv_topi (fun n15 en15 => ?_)
          replace h := lt_at en15 h
          refine lv_istore (lv' := [(4, .int n15), (0, .ref qt), (1, .int x1), (2, .int x2), (3, .int x3)]) hx hb dX8_buy_66 hl (by decide) rfl (fun ls hl => ?_)
          refine lv_iload hx hb dX8_buy_68 (lv_at hl 0 rfl) ?_
          refine lv_aload_n hx hb dX8_buy_70 rfl (lv_at hl 1 rfl) ?_
          refine lv_iconst (v := 0) hx hb dX8_buy_71 (by decide) ?_
          refine lv_iload_n hx hb dX8_buy_72 rfl (lv_at hl 2 rfl) ?_
          refine lv_iload_n hx hb dX8_buy_73 rfl (lv_at hl 3 rfl) ?_
          refine lv_iload_n hx hb dX8_buy_74 rfl (lv_at hl 4 rfl) ?_
          replace h := bd_el h
          obtain ⟨⟨r16, g17⟩, hc18, h⟩ := h
          refine callVI (rest := [.int n15]) ⟨hx, hb, hml, hown, hts⟩ (ctX8_sell l D cI cZ cB cS kK kV _ qt qt_w qt_isKept qt_value qt_weight qt_newTube qt_newPrice qt_newLow qt_newHigh qt_newGoods qt_rhythm qt_rhythmLong qt_slug qt_text qt_of qt_buyerColumn qt_buyerKind qt_buyerCoins qt_tryRow qt_tryLong qt_tryFree it_kinds it_columns it_slugs it_newKinds it_newColumns it_newSlugs it_rhythmTold it_textSize it_at it_first it_length it_faultOf it_fault it_buyerMany it_tryMany ft_w ft_value 0 x1 x2 x3 N r16 g17 hc18) (cwV 4 hts gX8_buy_X8_sell rfl rfl rfl hdX8_sell ⟨Nat.le_of_ble_eq_true rfl, Nat.le_of_ble_eq_true rfl⟩) hK hN hX hP (dF hD rfl) hS hA [0, 1, 3] (mcC rfl (mcC rfl (mcC rfl mcN))) (by decide +kernel) [(qt, .inr (8, [.ref qt_w, .ref qt_isKept, .ref qt_value, .ref qt_weight, .ref qt_newTube, .ref qt_newPrice, .ref qt_newLow, .ref qt_newHigh, .ref qt_newGoods, .ref qt_rhythm, .ref qt_rhythmLong, .ref qt_slug, .int it_kinds, .int it_columns, .int it_slugs, .int it_newKinds, .int it_newColumns, .int it_newSlugs, .int it_rhythmTold, .ref qt_text, .int it_textSize, .int it_at, .int it_first, .int it_length, .int it_faultOf, .int it_fault, .ref qt_of, .ref qt_buyerColumn, .ref qt_buyerKind, .ref qt_buyerCoins, .int it_buyerMany, .ref qt_tryRow, .ref qt_tryLong, .ref qt_tryFree, .int it_tryMany])), (qt_w, .inl (cI, 240, .inl g17)), (qt_weight, .inl (cI, 10, .inl ft_weight)), (qt_value, .inl (cI, 10, .inl ft_value))] [2] (mcC rfl (mcC rfl (mcC rfl mcN))) ((mcC rfl mcN).trans (mcC rfl mcN).symm) 4 rfl (by decide +kernel) (va_recv hK hP (ci := 8) (q0 := 0) rfl rfl) rfl hl.1 rfl (Nat.le_of_ble_eq_true rfl) ⟨Nat.zero_le _, Nat.zero_le _⟩ dX8_buy_75 (fun H locs hP hS => ?_)
          refine lv_isub hx hb dX8_buy_78 ?_
          refine lv_topi (fun n19 en19 => ?_)
          replace h := lt_at en19 h
          simp only [Option.some.injEq, Prod.mk.injEq] at h
          obtain ⟨rfl, rfl⟩ := h
          exact hret _ _ _ _ hP hS rfl dX8_buy_79
        · replace h := if_t c12 h
          refine lv_ldc (v := (-1000000003)) hx hb hown cn228 dX8_buy_45 ?_
          simp only [Option.some.injEq, Prod.mk.injEq] at h
          obtain ⟨rfl, rfl⟩ := h
          exact hret _ _ _ _ hP hS rfl dX8_buy_47
      · replace h := if_t c9 h
        refine lv_ldc (v := (-1000000002)) hx hb hown cn81 dX8_buy_31 ?_
        simp only [Option.some.injEq, Prod.mk.injEq] at h
        obtain ⟨rfl, rfl⟩ := h
        exact hret _ _ _ _ hP hS rfl dX8_buy_33
    · replace h := if_t c6 h
      refine lv_ldc (v := (-1000000001)) hx hb hown cn193 dX8_buy_16 ?_
      simp only [Option.some.injEq, Prod.mk.injEq] at h
      obtain ⟨rfl, rfl⟩ := h
      exact hret _ _ _ _ hP hS rfl dX8_buy_18
theorem hdX8_buy : yX8_buy.cls = RX8 ∧ yX8_buy.cls ≠ "java/lang/invoke/MethodHandle" ∧ yX8_buy.cls ≠ "java/lang/invoke/VarHandle" ∧ (parseMethodDescriptor yX8_buy.desc).map (fun d => d.parameters.length) = some 3 := by decide +kernel

noncomputable def fX8_kick (N : Nat) (it_columns : Int32) (ft_w : Nat → Int32) (ft_rhythmLong : Nat → Int32) (ft_rhythm : Nat → Int32) (x1 : Int32) (x2 : Int32) : Option (Int32 × (Nat → Int32)) := bd (fX8_isColumn N it_columns x1) fun r1 => (if r1 = 0 then some ((-1000000001), ft_w) else bd (fX8_in N (Int32.toInt64 x2) 0 1) fun r4 => (if r4 = 0 then some ((-1000000002), ft_w) else ck (10 + x1) 240 ((if 10 ≤ (ft_w (Int32.toNatClampNeg (10 + x1))) then ck x1 10 (lt (ft_rhythmLong (Int32.toNatClampNeg x1)) fun n10 => ck (15 + x1) 240 (lt (((ft_w (Int32.toNatClampNeg (15 + x1))) ||| (x2 <<< (n10 &&& 31))) >>> (1 &&& 31)) fun n12 => ck (20 + x1) 240 ((if n10 ≤ ((upd ft_w (Int32.toNatClampNeg (15 + x1)) n12) (Int32.toNatClampNeg (20 + x1))) then (if ((upd (upd ft_w (Int32.toNatClampNeg (15 + x1)) n12) (Int32.toNatClampNeg (20 + x1)) n10) (Int32.toNatClampNeg (20 + x1))) < n10 then some (0, upd (upd ft_w (Int32.toNatClampNeg (15 + x1)) n12) (Int32.toNatClampNeg (20 + x1)) n10) else (if ((upd (upd ft_w (Int32.toNatClampNeg (15 + x1)) n12) (Int32.toNatClampNeg (20 + x1)) n10) (Int32.toNatClampNeg (15 + x1))) = (ft_rhythm (Int32.toNatClampNeg x1)) then some (1, upd (upd (upd (upd (upd ft_w (Int32.toNatClampNeg (15 + x1)) n12) (Int32.toNatClampNeg (20 + x1)) n10) (Int32.toNatClampNeg (10 + x1)) 0) (Int32.toNatClampNeg (15 + x1)) 0) (Int32.toNatClampNeg (20 + x1)) 0) else some (0, upd (upd ft_w (Int32.toNatClampNeg (15 + x1)) n12) (Int32.toNatClampNeg (20 + x1)) n10))) else lt (((upd ft_w (Int32.toNatClampNeg (15 + x1)) n12) (Int32.toNatClampNeg (20 + x1))) + 1) fun n17 => (if ((upd (upd ft_w (Int32.toNatClampNeg (15 + x1)) n12) (Int32.toNatClampNeg (20 + x1)) n17) (Int32.toNatClampNeg (20 + x1))) < n10 then some (0, upd (upd ft_w (Int32.toNatClampNeg (15 + x1)) n12) (Int32.toNatClampNeg (20 + x1)) n17) else (if ((upd (upd ft_w (Int32.toNatClampNeg (15 + x1)) n12) (Int32.toNatClampNeg (20 + x1)) n17) (Int32.toNatClampNeg (15 + x1))) = (ft_rhythm (Int32.toNatClampNeg x1)) then some (1, upd (upd (upd (upd (upd ft_w (Int32.toNatClampNeg (15 + x1)) n12) (Int32.toNatClampNeg (20 + x1)) n17) (Int32.toNatClampNeg (10 + x1)) 0) (Int32.toNatClampNeg (15 + x1)) 0) (Int32.toNatClampNeg (20 + x1)) 0) else some (0, upd (upd ft_w (Int32.toNatClampNeg (15 + x1)) n12) (Int32.toNatClampNeg (20 + x1)) n17))))))) else some ((-1000000003), ft_w)))))
set_option maxHeartbeats 4000000 in
set_option maxRecDepth 100000 in
theorem ctX8_kick (l : Launch) (D : va_G) (cI cZ cB cS : ClassId) (kK kV : Nat → Nat) (sz : Nat) (qt qt_w qt_isKept qt_value qt_weight qt_newTube qt_newPrice qt_newLow qt_newHigh qt_newGoods qt_rhythm qt_rhythmLong qt_slug qt_text qt_of qt_buyerColumn qt_buyerKind qt_buyerCoins qt_tryRow qt_tryLong qt_tryFree : Nat) (it_kinds : Int32) (it_columns : Int32) (it_slugs : Int32) (it_newKinds : Int32) (it_newColumns : Int32) (it_newSlugs : Int32) (it_rhythmTold : Int32) (it_textSize : Int32) (it_at : Int32) (it_first : Int32) (it_length : Int32) (it_faultOf : Int32) (it_fault : Int32) (it_buyerMany : Int32) (it_tryMany : Int32) (ft_w : Nat → Int32) (ft_rhythmLong : Nat → Int32) (ft_rhythm : Nat → Int32) (x1 : Int32) (x2 : Int32) (N : Nat) (r0 : Int32) (w_ft_w : Nat → Int32) (h : fX8_kick N it_columns ft_w ft_rhythmLong ft_rhythm x1 x2 = some (r0, w_ft_w)) : CtI l yX8_kick wsX8_kick { frames := 2, cells := 0, slots := 0, locals := 46 } D (TY cI cZ cB cS) kK kV [.ref qt, .int x1, .int x2] [(qt, .inr (8, [.ref qt_w, .ref qt_isKept, .ref qt_value, .ref qt_weight, .ref qt_newTube, .ref qt_newPrice, .ref qt_newLow, .ref qt_newHigh, .ref qt_newGoods, .ref qt_rhythm, .ref qt_rhythmLong, .ref qt_slug, .int it_kinds, .int it_columns, .int it_slugs, .int it_newKinds, .int it_newColumns, .int it_newSlugs, .int it_rhythmTold, .ref qt_text, .int it_textSize, .int it_at, .int it_first, .int it_length, .int it_faultOf, .int it_fault, .ref qt_of, .ref qt_buyerColumn, .ref qt_buyerKind, .ref qt_buyerCoins, .int it_buyerMany, .ref qt_tryRow, .ref qt_tryLong, .ref qt_tryFree, .int it_tryMany])), (qt_w, .inl (cI, 240, .inl ft_w)), (qt_rhythmLong, .inl (cI, 10, .inl ft_rhythmLong)), (qt_rhythm, .inl (cI, 10, .inl ft_rhythm))] [(qt, .inr (8, [.ref qt_w, .ref qt_isKept, .ref qt_value, .ref qt_weight, .ref qt_newTube, .ref qt_newPrice, .ref qt_newLow, .ref qt_newHigh, .ref qt_newGoods, .ref qt_rhythm, .ref qt_rhythmLong, .ref qt_slug, .int it_kinds, .int it_columns, .int it_slugs, .int it_newKinds, .int it_newColumns, .int it_newSlugs, .int it_rhythmTold, .ref qt_text, .int it_textSize, .int it_at, .int it_first, .int it_length, .int it_faultOf, .int it_fault, .ref qt_of, .ref qt_buyerColumn, .ref qt_buyerKind, .ref qt_buyerCoins, .int it_buyerMany, .ref qt_tryRow, .ref qt_tryLong, .ref qt_tryFree, .int it_tryMany])), (qt_w, .inl (cI, 240, .inl w_ft_w)), (qt_rhythmLong, .inl (cI, 10, .inl ft_rhythmLong)), (qt_rhythm, .inl (cI, 10, .inl ft_rhythm))] sz r0 := by
  refine mkI (cc := cX8_kick) (maxL := 4) (rt := .int) (own := RX8) (by decide) rfl rfl (Nat.le_of_ble_eq_true rfl) ?_
  intro p e s m args below meth c A Z ls hx hb hml hown hts hK hN hX hP hD hA hS hret hl
  have hl : lv_has ls 4 [(0, .ref qt), (1, .int x1), (2, .int x2)] := hl
  have fl7 : (Cond.fieldLink RX8 7 "SoupWallModel" "w" "[I").before args s = true := hts _ (List.mem_of_getElem? (l := wsX8_kick) (i := 3) rfl)
  have hiX8 : ∀ w ∈ wsX80, w ∈ wsX8_kick := fun w h => List.mem_cons_of_mem _ (List.mem_append_right _ h)
  have fl41 : (Cond.fieldLink RX8 41 "SoupWallModel" "rhythmLong" "[I").before args s = true := hts _ (List.mem_of_getElem? (l := wsX8_kick) (i := 5) rfl)
  have fl38 : (Cond.fieldLink RX8 38 "SoupWallModel" "rhythm" "[I").before args s = true := hts _ (List.mem_of_getElem? (l := wsX8_kick) (i := 6) rfl)
  have cn228 : (Cond.constant RX8 228 (-1000000003)).before args s = true := hts _ (List.mem_of_getElem? (l := wsX8_kick) (i := 4) rfl)
  have cn81 : (Cond.constant RX8 81 (-1000000002)).before args s = true := hts _ (List.mem_of_getElem? (l := wsX8_kick) (i := 2) rfl)
  have cn193 : (Cond.constant RX8 193 (-1000000001)).before args s = true := hts _ (List.mem_of_getElem? (l := wsX8_kick) (i := 1) rfl)
  unfold fX8_kick at h
  refine lv_aload_n hx hb dX8_kick_0 rfl (lv_at hl 0 rfl) ?_
  refine lv_iload_n hx hb dX8_kick_1 rfl (lv_at hl 1 rfl) ?_
  replace h := bd_el h
  obtain ⟨r1, hc2, h⟩ := h
  refine callVI (rest := []) ⟨hx, hb, hml, hown, hts⟩ (ctX8_isColumn l D cI cZ cB cS kK kV _ qt qt_w qt_isKept qt_value qt_weight qt_newTube qt_newPrice qt_newLow qt_newHigh qt_newGoods qt_rhythm qt_rhythmLong qt_slug qt_text qt_of qt_buyerColumn qt_buyerKind qt_buyerCoins qt_tryRow qt_tryLong qt_tryFree it_kinds it_columns it_slugs it_newKinds it_newColumns it_newSlugs it_rhythmTold it_textSize it_at it_first it_length it_faultOf it_fault it_buyerMany it_tryMany x1 N r1 hc2) (cwV 1 hts gX8_kick_X8_isColumn rfl rfl rfl hdX8_isColumn ⟨Nat.le_of_ble_eq_true rfl, Nat.le_of_ble_eq_true rfl⟩) hK hN hX hP (dF hD rfl) hS hA [0] (mcC rfl mcN) (by decide +kernel) [(qt, .inr (8, [.ref qt_w, .ref qt_isKept, .ref qt_value, .ref qt_weight, .ref qt_newTube, .ref qt_newPrice, .ref qt_newLow, .ref qt_newHigh, .ref qt_newGoods, .ref qt_rhythm, .ref qt_rhythmLong, .ref qt_slug, .int it_kinds, .int it_columns, .int it_slugs, .int it_newKinds, .int it_newColumns, .int it_newSlugs, .int it_rhythmTold, .ref qt_text, .int it_textSize, .int it_at, .int it_first, .int it_length, .int it_faultOf, .int it_fault, .ref qt_of, .ref qt_buyerColumn, .ref qt_buyerKind, .ref qt_buyerCoins, .int it_buyerMany, .ref qt_tryRow, .ref qt_tryLong, .ref qt_tryFree, .int it_tryMany])), (qt_w, .inl (cI, 240, .inl ft_w)), (qt_rhythmLong, .inl (cI, 10, .inl ft_rhythmLong)), (qt_rhythm, .inl (cI, 10, .inl ft_rhythm))] [1, 2, 3] (mcC rfl mcN) ((mcC rfl (mcC rfl (mcC rfl mcN))).trans (mcC rfl (mcC rfl (mcC rfl mcN))).symm) 4 rfl (by decide +kernel) (va_recv hK hP (ci := 8) (q0 := 0) rfl rfl) rfl hl.1 rfl (Nat.le_of_ble_eq_true rfl) ⟨Nat.zero_le _, Nat.zero_le _⟩ dX8_kick_2 (fun H locs hP hS => ?_)
  refine lv_if_ne (tgt := 11) hx hb dX8_kick_5 (by decide) (fun c3 => ?_) (fun c3 => ?_)
  · replace h := if_f c3 h
    refine lv_iload_n hx hb dX8_kick_11 rfl (lv_at hl 2 rfl) ?_
    refine lv_i2l (v := Int32.toInt64 x2) hx hb dX8_kick_12 rfl ?_
    refine lv_lconst (v := 0) hx hb dX8_kick_13 (by decide) ?_
    refine lv_lconst (v := 1) hx hb dX8_kick_14 (by decide) ?_
    replace h := bd_el h
    obtain ⟨r4, hc5, h⟩ := h
    refine callSI (rest := []) ⟨hx, hb, hml, hown, hts⟩ (ctX8_in l D cI cZ cB cS kK kV _ (Int32.toInt64 x2) 0 1 N r4 hc5) (va_cwS 3 hts gX8_kick_X8_in rfl rfl rfl hdX8_in ⟨Nat.le_of_ble_eq_true rfl, Nat.le_of_ble_eq_true rfl⟩) hK hN hX hP (dF hD rfl) hS hA [] mcN (by decide +kernel) [(qt, .inr (8, [.ref qt_w, .ref qt_isKept, .ref qt_value, .ref qt_weight, .ref qt_newTube, .ref qt_newPrice, .ref qt_newLow, .ref qt_newHigh, .ref qt_newGoods, .ref qt_rhythm, .ref qt_rhythmLong, .ref qt_slug, .int it_kinds, .int it_columns, .int it_slugs, .int it_newKinds, .int it_newColumns, .int it_newSlugs, .int it_rhythmTold, .ref qt_text, .int it_textSize, .int it_at, .int it_first, .int it_length, .int it_faultOf, .int it_fault, .ref qt_of, .ref qt_buyerColumn, .ref qt_buyerKind, .ref qt_buyerCoins, .int it_buyerMany, .ref qt_tryRow, .ref qt_tryLong, .ref qt_tryFree, .int it_tryMany])), (qt_w, .inl (cI, 240, .inl ft_w)), (qt_rhythmLong, .inl (cI, 10, .inl ft_rhythmLong)), (qt_rhythm, .inl (cI, 10, .inl ft_rhythm))] [0, 1, 2, 3] mcN ((mcC rfl (mcC rfl (mcC rfl (mcC rfl mcN)))).trans (mcC rfl (mcC rfl (mcC rfl (mcC rfl mcN)))).symm) 4 rfl (by decide +kernel) rfl hl.1 rfl (Nat.le_of_ble_eq_true rfl) ⟨Nat.zero_le _, Nat.zero_le _⟩ dX8_kick_15 (fun H locs hP hS => ?_)
    refine lv_if_ne (tgt := 24) hx hb dX8_kick_18 (by decide) (fun c6 => ?_) (fun c6 => ?_)
    · replace h := if_f c6 h
      refine lv_aload_n hx hb dX8_kick_24 rfl (lv_at hl 0 rfl) ?_
      refine va_get (ci := 8) (v := .ref qt_w) (C := RX8) (T := TX8) (N := 35) hx hb hts hiX8 hown hK hP 0 rfl rfl 0 (by decide) fl7 (fun _ h9 => h9) rfl dX8_kick_25 ?_
      refine lv_bipush (v := 10) hx hb dX8_kick_28 (by decide) ?_
      refine lv_iload_n hx hb dX8_kick_30 rfl (lv_at hl 1 rfl) ?_
      refine lv_iadd hx hb dX8_kick_31 ?_
      replace h := ck_el h
      obtain ⟨hi7, h⟩ := h
      refine va_iald hx hb hK hP 1 0 rfl rfl hi7 dX8_kick_32 ?_
      refine lv_bipush (v := 10) hx hb dX8_kick_33 (by decide) ?_
      refine lv_icmp_ge (tgt := 41) hx hb dX8_kick_35 (by decide) (fun c8 => ?_) (fun c8 => ?_)
      · replace h := if_t c8 h
        refine lv_aload_n hx hb dX8_kick_41 rfl (lv_at hl 0 rfl) ?_
        refine va_get (ci := 8) (v := .ref qt_rhythmLong) (C := RX8) (T := TX8) (N := 35) hx hb hts hiX8 hown hK hP 0 rfl rfl 10 (by decide) fl41 (fun _ h9 => h9) rfl dX8_kick_42 ?_
        refine lv_iload_n hx hb dX8_kick_45 rfl (lv_at hl 1 rfl) ?_
        replace h := ck_el h
        obtain ⟨hi9, h⟩ := h
        refine va_iald hx hb hK hP 2 0 rfl rfl hi9 dX8_kick_46 ?_
        refine lv_topi (fun n10 en10 => ?_)
        replace h := lt_at en10 h
        refine lv_istore_n (lv' := [(3, .int n10), (0, .ref qt), (1, .int x1), (2, .int x2)]) hx hb dX8_kick_47 rfl hl (by decide) rfl (fun ls hl => ?_)
        refine lv_aload_n hx hb dX8_kick_48 rfl (lv_at hl 1 rfl) ?_
        refine va_get (ci := 8) (v := .ref qt_w) (C := RX8) (T := TX8) (N := 35) hx hb hts hiX8 hown hK hP 0 rfl rfl 0 (by decide) fl7 (fun _ h9 => h9) rfl dX8_kick_49 ?_
        refine lv_bipush (v := 15) hx hb dX8_kick_52 (by decide) ?_
        refine lv_iload_n hx hb dX8_kick_54 rfl (lv_at hl 2 rfl) ?_
        refine lv_iadd hx hb dX8_kick_55 ?_
        refine lv_aload_n hx hb dX8_kick_56 rfl (lv_at hl 1 rfl) ?_
        refine va_get (ci := 8) (v := .ref qt_w) (C := RX8) (T := TX8) (N := 35) hx hb hts hiX8 hown hK hP 0 rfl rfl 0 (by decide) fl7 (fun _ h9 => h9) rfl dX8_kick_57 ?_
        refine lv_bipush (v := 15) hx hb dX8_kick_60 (by decide) ?_
        refine lv_iload_n hx hb dX8_kick_62 rfl (lv_at hl 2 rfl) ?_
        refine lv_iadd hx hb dX8_kick_63 ?_
        replace h := ck_el h
        obtain ⟨hi11, h⟩ := h
        refine va_iald hx hb hK hP 1 0 rfl rfl hi11 dX8_kick_64 ?_
        refine lv_iload_n hx hb dX8_kick_65 rfl (lv_at hl 3 rfl) ?_
        refine lv_iload_n hx hb dX8_kick_66 rfl (lv_at hl 0 rfl) ?_
        refine lv_ishl hx hb dX8_kick_67 ?_
        refine lv_ior hx hb dX8_kick_68 ?_
        refine lv_iconst (v := 1) hx hb dX8_kick_69 (by decide) ?_
        refine lv_ishr hx hb dX8_kick_70 ?_
        refine lv_topi (fun n12 en12 => ?_)
        replace h := lt_at en12 h
        refine va_iast hx hb hK hP (dF hD rfl) hS 1 0 rfl rfl hi11 dX8_kick_71 (fun H locs hP _ hS => ?_)
        replace hP : va_P D vwCl [(qt, .inr (8, [.ref qt_w, .ref qt_isKept, .ref qt_value, .ref qt_weight, .ref qt_newTube, .ref qt_newPrice, .ref qt_newLow, .ref qt_newHigh, .ref qt_newGoods, .ref qt_rhythm, .ref qt_rhythmLong, .ref qt_slug, .int it_kinds, .int it_columns, .int it_slugs, .int it_newKinds, .int it_newColumns, .int it_newSlugs, .int it_rhythmTold, .ref qt_text, .int it_textSize, .int it_at, .int it_first, .int it_length, .int it_faultOf, .int it_fault, .ref qt_of, .ref qt_buyerColumn, .ref qt_buyerKind, .ref qt_buyerCoins, .int it_buyerMany, .ref qt_tryRow, .ref qt_tryLong, .ref qt_tryFree, .int it_tryMany])), (qt_w, .inl (cI, 240, .inl (upd ft_w (Int32.toNatClampNeg (15 + x1)) n12))), (qt_rhythmLong, .inl (cI, 10, .inl ft_rhythmLong)), (qt_rhythm, .inl (cI, 10, .inl ft_rhythm))] H := hP
        refine lv_aload_n hx hb dX8_kick_72 rfl (lv_at hl 1 rfl) ?_
        refine va_get (ci := 8) (v := .ref qt_w) (C := RX8) (T := TX8) (N := 35) hx hb hts hiX8 hown hK hP 0 rfl rfl 0 (by decide) fl7 (fun _ h9 => h9) rfl dX8_kick_73 ?_
        refine lv_bipush (v := 20) hx hb dX8_kick_76 (by decide) ?_
        refine lv_iload_n hx hb dX8_kick_78 rfl (lv_at hl 2 rfl) ?_
        refine lv_iadd hx hb dX8_kick_79 ?_
        refine lv_aload_n hx hb dX8_kick_80 rfl (lv_at hl 1 rfl) ?_
        refine va_get (ci := 8) (v := .ref qt_w) (C := RX8) (T := TX8) (N := 35) hx hb hts hiX8 hown hK hP 0 rfl rfl 0 (by decide) fl7 (fun _ h9 => h9) rfl dX8_kick_81 ?_
        refine lv_bipush (v := 20) hx hb dX8_kick_84 (by decide) ?_
        refine lv_iload_n hx hb dX8_kick_86 rfl (lv_at hl 2 rfl) ?_
        refine lv_iadd hx hb dX8_kick_87 ?_
        replace h := ck_el h
        obtain ⟨hi13, h⟩ := h
        refine va_iald hx hb hK hP 1 0 rfl rfl hi13 dX8_kick_88 ?_
        refine lv_iload_n hx hb dX8_kick_89 rfl (lv_at hl 0 rfl) ?_
        refine lv_icmp_ge (tgt := 107) hx hb dX8_kick_90 (by decide) (fun c14 => ?_) (fun c14 => ?_)
        · replace h := if_t c14 h
          refine lv_iload_n hx hb dX8_kick_107 rfl (lv_at hl 0 rfl) ?_
          refine va_iast hx hb hK hP (dF hD rfl) hS 1 0 rfl rfl hi13 dX8_kick_108 (fun H locs hP _ hS => ?_)
          replace hP : va_P D vwCl [(qt, .inr (8, [.ref qt_w, .ref qt_isKept, .ref qt_value, .ref qt_weight, .ref qt_newTube, .ref qt_newPrice, .ref qt_newLow, .ref qt_newHigh, .ref qt_newGoods, .ref qt_rhythm, .ref qt_rhythmLong, .ref qt_slug, .int it_kinds, .int it_columns, .int it_slugs, .int it_newKinds, .int it_newColumns, .int it_newSlugs, .int it_rhythmTold, .ref qt_text, .int it_textSize, .int it_at, .int it_first, .int it_length, .int it_faultOf, .int it_fault, .ref qt_of, .ref qt_buyerColumn, .ref qt_buyerKind, .ref qt_buyerCoins, .int it_buyerMany, .ref qt_tryRow, .ref qt_tryLong, .ref qt_tryFree, .int it_tryMany])), (qt_w, .inl (cI, 240, .inl (upd (upd ft_w (Int32.toNatClampNeg (15 + x1)) n12) (Int32.toNatClampNeg (20 + x1)) n10))), (qt_rhythmLong, .inl (cI, 10, .inl ft_rhythmLong)), (qt_rhythm, .inl (cI, 10, .inl ft_rhythm))] H := hP
          refine lv_aload_n hx hb dX8_kick_109 rfl (lv_at hl 1 rfl) ?_
          refine va_get (ci := 8) (v := .ref qt_w) (C := RX8) (T := TX8) (N := 35) hx hb hts hiX8 hown hK hP 0 rfl rfl 0 (by decide) fl7 (fun _ h9 => h9) rfl dX8_kick_110 ?_
          refine lv_bipush (v := 20) hx hb dX8_kick_113 (by decide) ?_
          refine lv_iload_n hx hb dX8_kick_115 rfl (lv_at hl 2 rfl) ?_
          refine lv_iadd hx hb dX8_kick_116 ?_
          refine va_iald hx hb hK hP 1 0 rfl rfl hi13 dX8_kick_117 ?_
          refine lv_iload_n hx hb dX8_kick_118 rfl (lv_at hl 0 rfl) ?_
          refine lv_icmp_lt (tgt := 140) hx hb dX8_kick_119 (by decide) (fun c15 => ?_) (fun c15 => ?_)
          · replace h := if_t c15 h
            refine lv_iconst (v := 0) hx hb dX8_kick_140 (by decide) ?_
            simp only [Option.some.injEq, Prod.mk.injEq] at h
            obtain ⟨rfl, rfl⟩ := h
            exact hret _ _ _ _ hP hS rfl dX8_kick_141
          · replace h := if_f c15 h
            refine lv_aload_n hx hb dX8_kick_122 rfl (lv_at hl 1 rfl) ?_
            refine va_get (ci := 8) (v := .ref qt_w) (C := RX8) (T := TX8) (N := 35) hx hb hts hiX8 hown hK hP 0 rfl rfl 0 (by decide) fl7 (fun _ h9 => h9) rfl dX8_kick_123 ?_
            refine lv_bipush (v := 15) hx hb dX8_kick_126 (by decide) ?_
            refine lv_iload_n hx hb dX8_kick_128 rfl (lv_at hl 2 rfl) ?_
            refine lv_iadd hx hb dX8_kick_129 ?_
            refine va_iald hx hb hK hP 1 0 rfl rfl hi11 dX8_kick_130 ?_
            refine lv_aload_n hx hb dX8_kick_131 rfl (lv_at hl 1 rfl) ?_
            refine va_get (ci := 8) (v := .ref qt_rhythm) (C := RX8) (T := TX8) (N := 35) hx hb hts hiX8 hown hK hP 0 rfl rfl 9 (by decide) fl38 (fun _ h9 => h9) rfl dX8_kick_132 ?_
            refine lv_iload_n hx hb dX8_kick_135 rfl (lv_at hl 2 rfl) ?_
            refine va_iald hx hb hK hP 3 0 rfl rfl hi9 dX8_kick_136 ?_
            refine lv_icmp_eq (tgt := 142) hx hb dX8_kick_137 (by decide) (fun c16 => ?_) (fun c16 => ?_)
            · replace h := if_t c16 h
              refine lv_aload_n hx hb dX8_kick_142 rfl (lv_at hl 1 rfl) ?_
              refine va_get (ci := 8) (v := .ref qt_w) (C := RX8) (T := TX8) (N := 35) hx hb hts hiX8 hown hK hP 0 rfl rfl 0 (by decide) fl7 (fun _ h9 => h9) rfl dX8_kick_143 ?_
              refine lv_bipush (v := 10) hx hb dX8_kick_146 (by decide) ?_
              refine lv_iload_n hx hb dX8_kick_148 rfl (lv_at hl 2 rfl) ?_
              refine lv_iadd hx hb dX8_kick_149 ?_
              refine lv_iconst (v := 0) hx hb dX8_kick_150 (by decide) ?_
              refine va_iast hx hb hK hP (dF hD rfl) hS 1 0 rfl rfl hi7 dX8_kick_151 (fun H locs hP _ hS => ?_)
              replace hP : va_P D vwCl [(qt, .inr (8, [.ref qt_w, .ref qt_isKept, .ref qt_value, .ref qt_weight, .ref qt_newTube, .ref qt_newPrice, .ref qt_newLow, .ref qt_newHigh, .ref qt_newGoods, .ref qt_rhythm, .ref qt_rhythmLong, .ref qt_slug, .int it_kinds, .int it_columns, .int it_slugs, .int it_newKinds, .int it_newColumns, .int it_newSlugs, .int it_rhythmTold, .ref qt_text, .int it_textSize, .int it_at, .int it_first, .int it_length, .int it_faultOf, .int it_fault, .ref qt_of, .ref qt_buyerColumn, .ref qt_buyerKind, .ref qt_buyerCoins, .int it_buyerMany, .ref qt_tryRow, .ref qt_tryLong, .ref qt_tryFree, .int it_tryMany])), (qt_w, .inl (cI, 240, .inl (upd (upd (upd ft_w (Int32.toNatClampNeg (15 + x1)) n12) (Int32.toNatClampNeg (20 + x1)) n10) (Int32.toNatClampNeg (10 + x1)) 0))), (qt_rhythmLong, .inl (cI, 10, .inl ft_rhythmLong)), (qt_rhythm, .inl (cI, 10, .inl ft_rhythm))] H := hP
              refine lv_aload_n hx hb dX8_kick_152 rfl (lv_at hl 1 rfl) ?_
              refine va_get (ci := 8) (v := .ref qt_w) (C := RX8) (T := TX8) (N := 35) hx hb hts hiX8 hown hK hP 0 rfl rfl 0 (by decide) fl7 (fun _ h9 => h9) rfl dX8_kick_153 ?_
              refine lv_bipush (v := 15) hx hb dX8_kick_156 (by decide) ?_
              refine lv_iload_n hx hb dX8_kick_158 rfl (lv_at hl 2 rfl) ?_
              refine lv_iadd hx hb dX8_kick_159 ?_
              refine lv_iconst (v := 0) hx hb dX8_kick_160 (by decide) ?_
              refine va_iast hx hb hK hP (dF hD rfl) hS 1 0 rfl rfl hi11 dX8_kick_161 (fun H locs hP _ hS => ?_)
              replace hP : va_P D vwCl [(qt, .inr (8, [.ref qt_w, .ref qt_isKept, .ref qt_value, .ref qt_weight, .ref qt_newTube, .ref qt_newPrice, .ref qt_newLow, .ref qt_newHigh, .ref qt_newGoods, .ref qt_rhythm, .ref qt_rhythmLong, .ref qt_slug, .int it_kinds, .int it_columns, .int it_slugs, .int it_newKinds, .int it_newColumns, .int it_newSlugs, .int it_rhythmTold, .ref qt_text, .int it_textSize, .int it_at, .int it_first, .int it_length, .int it_faultOf, .int it_fault, .ref qt_of, .ref qt_buyerColumn, .ref qt_buyerKind, .ref qt_buyerCoins, .int it_buyerMany, .ref qt_tryRow, .ref qt_tryLong, .ref qt_tryFree, .int it_tryMany])), (qt_w, .inl (cI, 240, .inl (upd (upd (upd (upd ft_w (Int32.toNatClampNeg (15 + x1)) n12) (Int32.toNatClampNeg (20 + x1)) n10) (Int32.toNatClampNeg (10 + x1)) 0) (Int32.toNatClampNeg (15 + x1)) 0))), (qt_rhythmLong, .inl (cI, 10, .inl ft_rhythmLong)), (qt_rhythm, .inl (cI, 10, .inl ft_rhythm))] H := hP
              refine lv_aload_n hx hb dX8_kick_162 rfl (lv_at hl 1 rfl) ?_
              refine va_get (ci := 8) (v := .ref qt_w) (C := RX8) (T := TX8) (N := 35) hx hb hts hiX8 hown hK hP 0 rfl rfl 0 (by decide) fl7 (fun _ h9 => h9) rfl dX8_kick_163 ?_
              refine lv_bipush (v := 20) hx hb dX8_kick_166 (by decide) ?_
              refine lv_iload_n hx hb dX8_kick_168 rfl (lv_at hl 2 rfl) ?_
              refine lv_iadd hx hb dX8_kick_169 ?_
              refine lv_iconst (v := 0) hx hb dX8_kick_170 (by decide) ?_
              refine va_iast hx hb hK hP (dF hD rfl) hS 1 0 rfl rfl hi13 dX8_kick_171 (fun H locs hP _ hS => ?_)
              replace hP : va_P D vwCl [(qt, .inr (8, [.ref qt_w, .ref qt_isKept, .ref qt_value, .ref qt_weight, .ref qt_newTube, .ref qt_newPrice, .ref qt_newLow, .ref qt_newHigh, .ref qt_newGoods, .ref qt_rhythm, .ref qt_rhythmLong, .ref qt_slug, .int it_kinds, .int it_columns, .int it_slugs, .int it_newKinds, .int it_newColumns, .int it_newSlugs, .int it_rhythmTold, .ref qt_text, .int it_textSize, .int it_at, .int it_first, .int it_length, .int it_faultOf, .int it_fault, .ref qt_of, .ref qt_buyerColumn, .ref qt_buyerKind, .ref qt_buyerCoins, .int it_buyerMany, .ref qt_tryRow, .ref qt_tryLong, .ref qt_tryFree, .int it_tryMany])), (qt_w, .inl (cI, 240, .inl (upd (upd (upd (upd (upd ft_w (Int32.toNatClampNeg (15 + x1)) n12) (Int32.toNatClampNeg (20 + x1)) n10) (Int32.toNatClampNeg (10 + x1)) 0) (Int32.toNatClampNeg (15 + x1)) 0) (Int32.toNatClampNeg (20 + x1)) 0))), (qt_rhythmLong, .inl (cI, 10, .inl ft_rhythmLong)), (qt_rhythm, .inl (cI, 10, .inl ft_rhythm))] H := hP
              refine lv_iconst (v := 1) hx hb dX8_kick_172 (by decide) ?_
              simp only [Option.some.injEq, Prod.mk.injEq] at h
              obtain ⟨rfl, rfl⟩ := h
              exact hret _ _ _ _ hP hS rfl dX8_kick_173
            · replace h := if_f c16 h
              refine lv_iconst (v := 0) hx hb dX8_kick_140 (by decide) ?_
              simp only [Option.some.injEq, Prod.mk.injEq] at h
              obtain ⟨rfl, rfl⟩ := h
              exact hret _ _ _ _ hP hS rfl dX8_kick_141
        · replace h := if_f c14 h
          refine lv_aload_n hx hb dX8_kick_93 rfl (lv_at hl 1 rfl) ?_
          refine va_get (ci := 8) (v := .ref qt_w) (C := RX8) (T := TX8) (N := 35) hx hb hts hiX8 hown hK hP 0 rfl rfl 0 (by decide) fl7 (fun _ h9 => h9) rfl dX8_kick_94 ?_
          refine lv_bipush (v := 20) hx hb dX8_kick_97 (by decide) ?_
          refine lv_iload_n hx hb dX8_kick_99 rfl (lv_at hl 2 rfl) ?_
          refine lv_iadd hx hb dX8_kick_100 ?_
          refine va_iald hx hb hK hP 1 0 rfl rfl hi13 dX8_kick_101 ?_
          refine lv_iconst (v := 1) hx hb dX8_kick_102 (by decide) ?_
          refine lv_iadd hx hb dX8_kick_103 ?_
          refine lv_goto (tgt := 108) hx hb dX8_kick_104 (by decide) ?_
          refine lv_topi (fun n17 en17 => ?_)
          replace h := lt_at en17 h
          refine va_iast hx hb hK hP (dF hD rfl) hS 1 0 rfl rfl hi13 dX8_kick_108 (fun H locs hP _ hS => ?_)
          replace hP : va_P D vwCl [(qt, .inr (8, [.ref qt_w, .ref qt_isKept, .ref qt_value, .ref qt_weight, .ref qt_newTube, .ref qt_newPrice, .ref qt_newLow, .ref qt_newHigh, .ref qt_newGoods, .ref qt_rhythm, .ref qt_rhythmLong, .ref qt_slug, .int it_kinds, .int it_columns, .int it_slugs, .int it_newKinds, .int it_newColumns, .int it_newSlugs, .int it_rhythmTold, .ref qt_text, .int it_textSize, .int it_at, .int it_first, .int it_length, .int it_faultOf, .int it_fault, .ref qt_of, .ref qt_buyerColumn, .ref qt_buyerKind, .ref qt_buyerCoins, .int it_buyerMany, .ref qt_tryRow, .ref qt_tryLong, .ref qt_tryFree, .int it_tryMany])), (qt_w, .inl (cI, 240, .inl (upd (upd ft_w (Int32.toNatClampNeg (15 + x1)) n12) (Int32.toNatClampNeg (20 + x1)) n17))), (qt_rhythmLong, .inl (cI, 10, .inl ft_rhythmLong)), (qt_rhythm, .inl (cI, 10, .inl ft_rhythm))] H := hP
          refine lv_aload_n hx hb dX8_kick_109 rfl (lv_at hl 1 rfl) ?_
          refine va_get (ci := 8) (v := .ref qt_w) (C := RX8) (T := TX8) (N := 35) hx hb hts hiX8 hown hK hP 0 rfl rfl 0 (by decide) fl7 (fun _ h9 => h9) rfl dX8_kick_110 ?_
          refine lv_bipush (v := 20) hx hb dX8_kick_113 (by decide) ?_
          refine lv_iload_n hx hb dX8_kick_115 rfl (lv_at hl 2 rfl) ?_
          refine lv_iadd hx hb dX8_kick_116 ?_
          refine va_iald hx hb hK hP 1 0 rfl rfl hi13 dX8_kick_117 ?_
          refine lv_iload_n hx hb dX8_kick_118 rfl (lv_at hl 0 rfl) ?_
          refine lv_icmp_lt (tgt := 140) hx hb dX8_kick_119 (by decide) (fun c18 => ?_) (fun c18 => ?_)
          · replace h := if_t c18 h
            refine lv_iconst (v := 0) hx hb dX8_kick_140 (by decide) ?_
            simp only [Option.some.injEq, Prod.mk.injEq] at h
            obtain ⟨rfl, rfl⟩ := h
            exact hret _ _ _ _ hP hS rfl dX8_kick_141
          · replace h := if_f c18 h
            refine lv_aload_n hx hb dX8_kick_122 rfl (lv_at hl 1 rfl) ?_
            refine va_get (ci := 8) (v := .ref qt_w) (C := RX8) (T := TX8) (N := 35) hx hb hts hiX8 hown hK hP 0 rfl rfl 0 (by decide) fl7 (fun _ h9 => h9) rfl dX8_kick_123 ?_
            refine lv_bipush (v := 15) hx hb dX8_kick_126 (by decide) ?_
            refine lv_iload_n hx hb dX8_kick_128 rfl (lv_at hl 2 rfl) ?_
            refine lv_iadd hx hb dX8_kick_129 ?_
            refine va_iald hx hb hK hP 1 0 rfl rfl hi11 dX8_kick_130 ?_
            refine lv_aload_n hx hb dX8_kick_131 rfl (lv_at hl 1 rfl) ?_
            refine va_get (ci := 8) (v := .ref qt_rhythm) (C := RX8) (T := TX8) (N := 35) hx hb hts hiX8 hown hK hP 0 rfl rfl 9 (by decide) fl38 (fun _ h9 => h9) rfl dX8_kick_132 ?_
            refine lv_iload_n hx hb dX8_kick_135 rfl (lv_at hl 2 rfl) ?_
            refine va_iald hx hb hK hP 3 0 rfl rfl hi9 dX8_kick_136 ?_
            refine lv_icmp_eq (tgt := 142) hx hb dX8_kick_137 (by decide) (fun c19 => ?_) (fun c19 => ?_)
            · replace h := if_t c19 h
              refine lv_aload_n hx hb dX8_kick_142 rfl (lv_at hl 1 rfl) ?_
              refine va_get (ci := 8) (v := .ref qt_w) (C := RX8) (T := TX8) (N := 35) hx hb hts hiX8 hown hK hP 0 rfl rfl 0 (by decide) fl7 (fun _ h9 => h9) rfl dX8_kick_143 ?_
              refine lv_bipush (v := 10) hx hb dX8_kick_146 (by decide) ?_
              refine lv_iload_n hx hb dX8_kick_148 rfl (lv_at hl 2 rfl) ?_
              refine lv_iadd hx hb dX8_kick_149 ?_
              refine lv_iconst (v := 0) hx hb dX8_kick_150 (by decide) ?_
              refine va_iast hx hb hK hP (dF hD rfl) hS 1 0 rfl rfl hi7 dX8_kick_151 (fun H locs hP _ hS => ?_)
              replace hP : va_P D vwCl [(qt, .inr (8, [.ref qt_w, .ref qt_isKept, .ref qt_value, .ref qt_weight, .ref qt_newTube, .ref qt_newPrice, .ref qt_newLow, .ref qt_newHigh, .ref qt_newGoods, .ref qt_rhythm, .ref qt_rhythmLong, .ref qt_slug, .int it_kinds, .int it_columns, .int it_slugs, .int it_newKinds, .int it_newColumns, .int it_newSlugs, .int it_rhythmTold, .ref qt_text, .int it_textSize, .int it_at, .int it_first, .int it_length, .int it_faultOf, .int it_fault, .ref qt_of, .ref qt_buyerColumn, .ref qt_buyerKind, .ref qt_buyerCoins, .int it_buyerMany, .ref qt_tryRow, .ref qt_tryLong, .ref qt_tryFree, .int it_tryMany])), (qt_w, .inl (cI, 240, .inl (upd (upd (upd ft_w (Int32.toNatClampNeg (15 + x1)) n12) (Int32.toNatClampNeg (20 + x1)) n17) (Int32.toNatClampNeg (10 + x1)) 0))), (qt_rhythmLong, .inl (cI, 10, .inl ft_rhythmLong)), (qt_rhythm, .inl (cI, 10, .inl ft_rhythm))] H := hP
              refine lv_aload_n hx hb dX8_kick_152 rfl (lv_at hl 1 rfl) ?_
              refine va_get (ci := 8) (v := .ref qt_w) (C := RX8) (T := TX8) (N := 35) hx hb hts hiX8 hown hK hP 0 rfl rfl 0 (by decide) fl7 (fun _ h9 => h9) rfl dX8_kick_153 ?_
              refine lv_bipush (v := 15) hx hb dX8_kick_156 (by decide) ?_
              refine lv_iload_n hx hb dX8_kick_158 rfl (lv_at hl 2 rfl) ?_
              refine lv_iadd hx hb dX8_kick_159 ?_
              refine lv_iconst (v := 0) hx hb dX8_kick_160 (by decide) ?_
              refine va_iast hx hb hK hP (dF hD rfl) hS 1 0 rfl rfl hi11 dX8_kick_161 (fun H locs hP _ hS => ?_)
              replace hP : va_P D vwCl [(qt, .inr (8, [.ref qt_w, .ref qt_isKept, .ref qt_value, .ref qt_weight, .ref qt_newTube, .ref qt_newPrice, .ref qt_newLow, .ref qt_newHigh, .ref qt_newGoods, .ref qt_rhythm, .ref qt_rhythmLong, .ref qt_slug, .int it_kinds, .int it_columns, .int it_slugs, .int it_newKinds, .int it_newColumns, .int it_newSlugs, .int it_rhythmTold, .ref qt_text, .int it_textSize, .int it_at, .int it_first, .int it_length, .int it_faultOf, .int it_fault, .ref qt_of, .ref qt_buyerColumn, .ref qt_buyerKind, .ref qt_buyerCoins, .int it_buyerMany, .ref qt_tryRow, .ref qt_tryLong, .ref qt_tryFree, .int it_tryMany])), (qt_w, .inl (cI, 240, .inl (upd (upd (upd (upd ft_w (Int32.toNatClampNeg (15 + x1)) n12) (Int32.toNatClampNeg (20 + x1)) n17) (Int32.toNatClampNeg (10 + x1)) 0) (Int32.toNatClampNeg (15 + x1)) 0))), (qt_rhythmLong, .inl (cI, 10, .inl ft_rhythmLong)), (qt_rhythm, .inl (cI, 10, .inl ft_rhythm))] H := hP
              refine lv_aload_n hx hb dX8_kick_162 rfl (lv_at hl 1 rfl) ?_
              refine va_get (ci := 8) (v := .ref qt_w) (C := RX8) (T := TX8) (N := 35) hx hb hts hiX8 hown hK hP 0 rfl rfl 0 (by decide) fl7 (fun _ h9 => h9) rfl dX8_kick_163 ?_
              refine lv_bipush (v := 20) hx hb dX8_kick_166 (by decide) ?_
              refine lv_iload_n hx hb dX8_kick_168 rfl (lv_at hl 2 rfl) ?_
              refine lv_iadd hx hb dX8_kick_169 ?_
              refine lv_iconst (v := 0) hx hb dX8_kick_170 (by decide) ?_
              refine va_iast hx hb hK hP (dF hD rfl) hS 1 0 rfl rfl hi13 dX8_kick_171 (fun H locs hP _ hS => ?_)
              replace hP : va_P D vwCl [(qt, .inr (8, [.ref qt_w, .ref qt_isKept, .ref qt_value, .ref qt_weight, .ref qt_newTube, .ref qt_newPrice, .ref qt_newLow, .ref qt_newHigh, .ref qt_newGoods, .ref qt_rhythm, .ref qt_rhythmLong, .ref qt_slug, .int it_kinds, .int it_columns, .int it_slugs, .int it_newKinds, .int it_newColumns, .int it_newSlugs, .int it_rhythmTold, .ref qt_text, .int it_textSize, .int it_at, .int it_first, .int it_length, .int it_faultOf, .int it_fault, .ref qt_of, .ref qt_buyerColumn, .ref qt_buyerKind, .ref qt_buyerCoins, .int it_buyerMany, .ref qt_tryRow, .ref qt_tryLong, .ref qt_tryFree, .int it_tryMany])), (qt_w, .inl (cI, 240, .inl (upd (upd (upd (upd (upd ft_w (Int32.toNatClampNeg (15 + x1)) n12) (Int32.toNatClampNeg (20 + x1)) n17) (Int32.toNatClampNeg (10 + x1)) 0) (Int32.toNatClampNeg (15 + x1)) 0) (Int32.toNatClampNeg (20 + x1)) 0))), (qt_rhythmLong, .inl (cI, 10, .inl ft_rhythmLong)), (qt_rhythm, .inl (cI, 10, .inl ft_rhythm))] H := hP
              refine lv_iconst (v := 1) hx hb dX8_kick_172 (by decide) ?_
              simp only [Option.some.injEq, Prod.mk.injEq] at h
              obtain ⟨rfl, rfl⟩ := h
              exact hret _ _ _ _ hP hS rfl dX8_kick_173
            · replace h := if_f c19 h
              refine lv_iconst (v := 0) hx hb dX8_kick_140 (by decide) ?_
              simp only [Option.some.injEq, Prod.mk.injEq] at h
              obtain ⟨rfl, rfl⟩ := h
              exact hret _ _ _ _ hP hS rfl dX8_kick_141
      · replace h := if_f c8 h
        refine lv_ldc (v := (-1000000003)) hx hb hown cn228 dX8_kick_38 ?_
        simp only [Option.some.injEq, Prod.mk.injEq] at h
        obtain ⟨rfl, rfl⟩ := h
        exact hret _ _ _ _ hP hS rfl dX8_kick_40
    · replace h := if_t c6 h
      refine lv_ldc (v := (-1000000002)) hx hb hown cn81 dX8_kick_21 ?_
      simp only [Option.some.injEq, Prod.mk.injEq] at h
      obtain ⟨rfl, rfl⟩ := h
      exact hret _ _ _ _ hP hS rfl dX8_kick_23
  · replace h := if_t c3 h
    refine lv_ldc (v := (-1000000001)) hx hb hown cn193 dX8_kick_8 ?_
    simp only [Option.some.injEq, Prod.mk.injEq] at h
    obtain ⟨rfl, rfl⟩ := h
    exact hret _ _ _ _ hP hS rfl dX8_kick_10
theorem hdX8_kick : yX8_kick.cls = RX8 ∧ yX8_kick.cls ≠ "java/lang/invoke/MethodHandle" ∧ yX8_kick.cls ≠ "java/lang/invoke/VarHandle" ∧ (parseMethodDescriptor yX8_kick.desc).map (fun d => d.parameters.length) = some 2 := by decide +kernel

noncomputable def fX8_set (N : Nat) (ft_w : Nat → Int32) (x1 : Int32) (x2 : Int32) : Option (Int32 × (Nat → Int32)) := ck x1 240 (lt (ft_w (Int32.toNatClampNeg x1)) fun n2 => some (n2, upd ft_w (Int32.toNatClampNeg x1) x2))
set_option maxHeartbeats 4000000 in
set_option maxRecDepth 100000 in
theorem ctX8_set (l : Launch) (D : va_G) (cI cZ cB cS : ClassId) (kK kV : Nat → Nat) (sz : Nat) (qt qt_w qt_isKept qt_value qt_weight qt_newTube qt_newPrice qt_newLow qt_newHigh qt_newGoods qt_rhythm qt_rhythmLong qt_slug qt_text qt_of qt_buyerColumn qt_buyerKind qt_buyerCoins qt_tryRow qt_tryLong qt_tryFree : Nat) (it_kinds : Int32) (it_columns : Int32) (it_slugs : Int32) (it_newKinds : Int32) (it_newColumns : Int32) (it_newSlugs : Int32) (it_rhythmTold : Int32) (it_textSize : Int32) (it_at : Int32) (it_first : Int32) (it_length : Int32) (it_faultOf : Int32) (it_fault : Int32) (it_buyerMany : Int32) (it_tryMany : Int32) (ft_w : Nat → Int32) (x1 : Int32) (x2 : Int32) (N : Nat) (r0 : Int32) (w_ft_w : Nat → Int32) (h : fX8_set N ft_w x1 x2 = some (r0, w_ft_w)) : CtI l yX8_set wsX8_set { frames := 0, cells := 0, slots := 0, locals := 0 } D (TY cI cZ cB cS) kK kV [.ref qt, .int x1, .int x2] [(qt, .inr (8, [.ref qt_w, .ref qt_isKept, .ref qt_value, .ref qt_weight, .ref qt_newTube, .ref qt_newPrice, .ref qt_newLow, .ref qt_newHigh, .ref qt_newGoods, .ref qt_rhythm, .ref qt_rhythmLong, .ref qt_slug, .int it_kinds, .int it_columns, .int it_slugs, .int it_newKinds, .int it_newColumns, .int it_newSlugs, .int it_rhythmTold, .ref qt_text, .int it_textSize, .int it_at, .int it_first, .int it_length, .int it_faultOf, .int it_fault, .ref qt_of, .ref qt_buyerColumn, .ref qt_buyerKind, .ref qt_buyerCoins, .int it_buyerMany, .ref qt_tryRow, .ref qt_tryLong, .ref qt_tryFree, .int it_tryMany])), (qt_w, .inl (cI, 240, .inl ft_w))] [(qt, .inr (8, [.ref qt_w, .ref qt_isKept, .ref qt_value, .ref qt_weight, .ref qt_newTube, .ref qt_newPrice, .ref qt_newLow, .ref qt_newHigh, .ref qt_newGoods, .ref qt_rhythm, .ref qt_rhythmLong, .ref qt_slug, .int it_kinds, .int it_columns, .int it_slugs, .int it_newKinds, .int it_newColumns, .int it_newSlugs, .int it_rhythmTold, .ref qt_text, .int it_textSize, .int it_at, .int it_first, .int it_length, .int it_faultOf, .int it_fault, .ref qt_of, .ref qt_buyerColumn, .ref qt_buyerKind, .ref qt_buyerCoins, .int it_buyerMany, .ref qt_tryRow, .ref qt_tryLong, .ref qt_tryFree, .int it_tryMany])), (qt_w, .inl (cI, 240, .inl w_ft_w))] sz r0 := by
  refine mkI (cc := cX8_set) (maxL := 4) (rt := .int) (own := RX8) (by decide) rfl rfl (Nat.le_of_ble_eq_true rfl) ?_
  intro p e s m args below meth c A Z ls hx hb hml hown hts hK hN hX hP hD hA hS hret hl
  have hl : lv_has ls 4 [(0, .ref qt), (1, .int x1), (2, .int x2)] := hl
  have fl7 : (Cond.fieldLink RX8 7 "SoupWallModel" "w" "[I").before args s = true := hts _ (List.mem_of_getElem? (l := wsX8_set) (i := 1) rfl)
  have hiX8 : ∀ w ∈ wsX80, w ∈ wsX8_set := fun w h => List.mem_cons_of_mem _ (List.mem_append_right _ h)
  unfold fX8_set at h
  refine lv_aload_n hx hb dX8_set_0 rfl (lv_at hl 0 rfl) ?_
  refine va_get (ci := 8) (v := .ref qt_w) (C := RX8) (T := TX8) (N := 35) hx hb hts hiX8 hown hK hP 0 rfl rfl 0 (by decide) fl7 (fun _ h9 => h9) rfl dX8_set_1 ?_
  refine lv_iload_n hx hb dX8_set_4 rfl (lv_at hl 1 rfl) ?_
  replace h := ck_el h
  obtain ⟨hi1, h⟩ := h
  refine va_iald hx hb hK hP 1 0 rfl rfl hi1 dX8_set_5 ?_
  refine lv_topi (fun n2 en2 => ?_)
  replace h := lt_at en2 h
  refine lv_istore_n (lv' := [(3, .int n2), (0, .ref qt), (1, .int x1), (2, .int x2)]) hx hb dX8_set_6 rfl hl (by decide) rfl (fun ls hl => ?_)
  refine lv_aload_n hx hb dX8_set_7 rfl (lv_at hl 1 rfl) ?_
  refine va_get (ci := 8) (v := .ref qt_w) (C := RX8) (T := TX8) (N := 35) hx hb hts hiX8 hown hK hP 0 rfl rfl 0 (by decide) fl7 (fun _ h9 => h9) rfl dX8_set_8 ?_
  refine lv_iload_n hx hb dX8_set_11 rfl (lv_at hl 2 rfl) ?_
  refine lv_iload_n hx hb dX8_set_12 rfl (lv_at hl 3 rfl) ?_
  refine va_iast hx hb hK hP (dF hD rfl) hS 1 0 rfl rfl hi1 dX8_set_13 (fun H locs hP _ hS => ?_)
  replace hP : va_P D vwCl [(qt, .inr (8, [.ref qt_w, .ref qt_isKept, .ref qt_value, .ref qt_weight, .ref qt_newTube, .ref qt_newPrice, .ref qt_newLow, .ref qt_newHigh, .ref qt_newGoods, .ref qt_rhythm, .ref qt_rhythmLong, .ref qt_slug, .int it_kinds, .int it_columns, .int it_slugs, .int it_newKinds, .int it_newColumns, .int it_newSlugs, .int it_rhythmTold, .ref qt_text, .int it_textSize, .int it_at, .int it_first, .int it_length, .int it_faultOf, .int it_fault, .ref qt_of, .ref qt_buyerColumn, .ref qt_buyerKind, .ref qt_buyerCoins, .int it_buyerMany, .ref qt_tryRow, .ref qt_tryLong, .ref qt_tryFree, .int it_tryMany])), (qt_w, .inl (cI, 240, .inl (upd ft_w (Int32.toNatClampNeg x1) x2)))] H := hP
  refine lv_iload_n hx hb dX8_set_14 rfl (lv_at hl 0 rfl) ?_
  simp only [Option.some.injEq, Prod.mk.injEq] at h
  obtain ⟨rfl, rfl⟩ := h
  exact hret _ _ _ _ hP hS rfl dX8_set_15
theorem hdX8_set : yX8_set.cls = RX8 ∧ yX8_set.cls ≠ "java/lang/invoke/MethodHandle" ∧ yX8_set.cls ≠ "java/lang/invoke/VarHandle" ∧ (parseMethodDescriptor yX8_set.desc).map (fun d => d.parameters.length) = some 2 := by decide +kernel

noncomputable def fX8_damp (N : Nat) (ft_w : Nat → Int32) (x1 : Int32) : Option (Int32 × (Nat → Int32)) := bd (fX8_in N (Int32.toInt64 x1) 0 9) fun r1 => (if r1 = 0 then some ((-1000000002), ft_w) else bd (fX8_set N ft_w 48 x1) fun (r4, g5) => some (r4, g5))
set_option maxHeartbeats 4000000 in
set_option maxRecDepth 100000 in
theorem ctX8_damp (l : Launch) (D : va_G) (cI cZ cB cS : ClassId) (kK kV : Nat → Nat) (sz : Nat) (qt qt_w qt_isKept qt_value qt_weight qt_newTube qt_newPrice qt_newLow qt_newHigh qt_newGoods qt_rhythm qt_rhythmLong qt_slug qt_text qt_of qt_buyerColumn qt_buyerKind qt_buyerCoins qt_tryRow qt_tryLong qt_tryFree : Nat) (it_kinds : Int32) (it_columns : Int32) (it_slugs : Int32) (it_newKinds : Int32) (it_newColumns : Int32) (it_newSlugs : Int32) (it_rhythmTold : Int32) (it_textSize : Int32) (it_at : Int32) (it_first : Int32) (it_length : Int32) (it_faultOf : Int32) (it_fault : Int32) (it_buyerMany : Int32) (it_tryMany : Int32) (ft_w : Nat → Int32) (x1 : Int32) (N : Nat) (r0 : Int32) (w_ft_w : Nat → Int32) (h : fX8_damp N ft_w x1 = some (r0, w_ft_w)) : CtI l yX8_damp wsX8_damp { frames := 1, cells := 0, slots := 0, locals := 25 } D (TY cI cZ cB cS) kK kV [.ref qt, .int x1] [(qt, .inr (8, [.ref qt_w, .ref qt_isKept, .ref qt_value, .ref qt_weight, .ref qt_newTube, .ref qt_newPrice, .ref qt_newLow, .ref qt_newHigh, .ref qt_newGoods, .ref qt_rhythm, .ref qt_rhythmLong, .ref qt_slug, .int it_kinds, .int it_columns, .int it_slugs, .int it_newKinds, .int it_newColumns, .int it_newSlugs, .int it_rhythmTold, .ref qt_text, .int it_textSize, .int it_at, .int it_first, .int it_length, .int it_faultOf, .int it_fault, .ref qt_of, .ref qt_buyerColumn, .ref qt_buyerKind, .ref qt_buyerCoins, .int it_buyerMany, .ref qt_tryRow, .ref qt_tryLong, .ref qt_tryFree, .int it_tryMany])), (qt_w, .inl (cI, 240, .inl ft_w))] [(qt, .inr (8, [.ref qt_w, .ref qt_isKept, .ref qt_value, .ref qt_weight, .ref qt_newTube, .ref qt_newPrice, .ref qt_newLow, .ref qt_newHigh, .ref qt_newGoods, .ref qt_rhythm, .ref qt_rhythmLong, .ref qt_slug, .int it_kinds, .int it_columns, .int it_slugs, .int it_newKinds, .int it_newColumns, .int it_newSlugs, .int it_rhythmTold, .ref qt_text, .int it_textSize, .int it_at, .int it_first, .int it_length, .int it_faultOf, .int it_fault, .ref qt_of, .ref qt_buyerColumn, .ref qt_buyerKind, .ref qt_buyerCoins, .int it_buyerMany, .ref qt_tryRow, .ref qt_tryLong, .ref qt_tryFree, .int it_tryMany])), (qt_w, .inl (cI, 240, .inl w_ft_w))] sz r0 := by
  refine mkI (cc := cX8_damp) (maxL := 2) (rt := .int) (own := RX8) (by decide) rfl rfl (Nat.le_of_ble_eq_true rfl) ?_
  intro p e s m args below meth c A Z ls hx hb hml hown hts hK hN hX hP hD hA hS hret hl
  have hl : lv_has ls 2 [(0, .ref qt), (1, .int x1)] := hl
  have cn233 : (Cond.constantLong RX8 233 (9)).before args s = true := hts _ (List.mem_of_getElem? (l := wsX8_damp) (i := 1) rfl)
  have cn81 : (Cond.constant RX8 81 (-1000000002)).before args s = true := hts _ (List.mem_of_getElem? (l := wsX8_damp) (i := 2) rfl)
  unfold fX8_damp at h
  refine lv_iload_n hx hb dX8_damp_0 rfl (lv_at hl 1 rfl) ?_
  refine lv_i2l (v := Int32.toInt64 x1) hx hb dX8_damp_1 rfl ?_
  refine lv_lconst (v := 0) hx hb dX8_damp_2 (by decide) ?_
  refine lv_ldc2 (v := 9) hx hb hown cn233 dX8_damp_3 ?_
  replace h := bd_el h
  obtain ⟨r1, hc2, h⟩ := h
  refine callSI (rest := []) ⟨hx, hb, hml, hown, hts⟩ (ctX8_in l D cI cZ cB cS kK kV _ (Int32.toInt64 x1) 0 9 N r1 hc2) (va_cwS 3 hts gX8_damp_X8_in rfl rfl rfl hdX8_in ⟨Nat.le_of_ble_eq_true rfl, Nat.le_of_ble_eq_true rfl⟩) hK hN hX hP (dF hD rfl) hS hA [] mcN (by decide +kernel) [(qt, .inr (8, [.ref qt_w, .ref qt_isKept, .ref qt_value, .ref qt_weight, .ref qt_newTube, .ref qt_newPrice, .ref qt_newLow, .ref qt_newHigh, .ref qt_newGoods, .ref qt_rhythm, .ref qt_rhythmLong, .ref qt_slug, .int it_kinds, .int it_columns, .int it_slugs, .int it_newKinds, .int it_newColumns, .int it_newSlugs, .int it_rhythmTold, .ref qt_text, .int it_textSize, .int it_at, .int it_first, .int it_length, .int it_faultOf, .int it_fault, .ref qt_of, .ref qt_buyerColumn, .ref qt_buyerKind, .ref qt_buyerCoins, .int it_buyerMany, .ref qt_tryRow, .ref qt_tryLong, .ref qt_tryFree, .int it_tryMany])), (qt_w, .inl (cI, 240, .inl ft_w))] [0, 1] mcN ((mcC rfl (mcC rfl mcN)).trans (mcC rfl (mcC rfl mcN)).symm) 2 rfl (by decide +kernel) rfl hl.1 rfl (Nat.le_of_ble_eq_true rfl) ⟨Nat.zero_le _, Nat.zero_le _⟩ dX8_damp_6 (fun H locs hP hS => ?_)
  refine lv_if_eq (tgt := 22) hx hb dX8_damp_9 (by decide) (fun c3 => ?_) (fun c3 => ?_)
  · replace h := if_t c3 h
    refine lv_ldc (v := (-1000000002)) hx hb hown cn81 dX8_damp_22 ?_
    simp only [Option.some.injEq, Prod.mk.injEq] at h
    obtain ⟨rfl, rfl⟩ := h
    exact hret _ _ _ _ hP hS rfl dX8_damp_24
  · replace h := if_f c3 h
    refine lv_aload_n hx hb dX8_damp_12 rfl (lv_at hl 0 rfl) ?_
    refine lv_bipush (v := 48) hx hb dX8_damp_13 (by decide) ?_
    refine lv_iload_n hx hb dX8_damp_15 rfl (lv_at hl 1 rfl) ?_
    replace h := bd_el h
    obtain ⟨⟨r4, g5⟩, hc6, h⟩ := h
    refine callVI (rest := []) ⟨hx, hb, hml, hown, hts⟩ (ctX8_set l D cI cZ cB cS kK kV _ qt qt_w qt_isKept qt_value qt_weight qt_newTube qt_newPrice qt_newLow qt_newHigh qt_newGoods qt_rhythm qt_rhythmLong qt_slug qt_text qt_of qt_buyerColumn qt_buyerKind qt_buyerCoins qt_tryRow qt_tryLong qt_tryFree it_kinds it_columns it_slugs it_newKinds it_newColumns it_newSlugs it_rhythmTold it_textSize it_at it_first it_length it_faultOf it_fault it_buyerMany it_tryMany ft_w 48 x1 N r4 g5 hc6) (cwV 2 hts gX8_damp_X8_set rfl rfl rfl hdX8_set ⟨Nat.le_of_ble_eq_true rfl, Nat.le_of_ble_eq_true rfl⟩) hK hN hX hP (dF hD rfl) hS hA [0, 1] (mcC rfl (mcC rfl mcN)) (by decide +kernel) [(qt, .inr (8, [.ref qt_w, .ref qt_isKept, .ref qt_value, .ref qt_weight, .ref qt_newTube, .ref qt_newPrice, .ref qt_newLow, .ref qt_newHigh, .ref qt_newGoods, .ref qt_rhythm, .ref qt_rhythmLong, .ref qt_slug, .int it_kinds, .int it_columns, .int it_slugs, .int it_newKinds, .int it_newColumns, .int it_newSlugs, .int it_rhythmTold, .ref qt_text, .int it_textSize, .int it_at, .int it_first, .int it_length, .int it_faultOf, .int it_fault, .ref qt_of, .ref qt_buyerColumn, .ref qt_buyerKind, .ref qt_buyerCoins, .int it_buyerMany, .ref qt_tryRow, .ref qt_tryLong, .ref qt_tryFree, .int it_tryMany])), (qt_w, .inl (cI, 240, .inl g5))] [] (mcC rfl (mcC rfl mcN)) (mcN.trans mcN.symm) 2 rfl (by decide +kernel) (va_recv hK hP (ci := 8) (q0 := 0) rfl rfl) rfl hl.1 rfl (Nat.le_of_ble_eq_true rfl) ⟨Nat.zero_le _, Nat.zero_le _⟩ dX8_damp_16 (fun H locs hP hS => ?_)
    refine lv_goto (tgt := 24) hx hb dX8_damp_19 (by decide) ?_
    simp only [Option.some.injEq, Prod.mk.injEq] at h
    obtain ⟨rfl, rfl⟩ := h
    exact hret _ _ _ _ hP hS rfl dX8_damp_24
theorem hdX8_damp : yX8_damp.cls = RX8 ∧ yX8_damp.cls ≠ "java/lang/invoke/MethodHandle" ∧ yX8_damp.cls ≠ "java/lang/invoke/VarHandle" ∧ (parseMethodDescriptor yX8_damp.desc).map (fun d => d.parameters.length) = some 1 := by decide +kernel

noncomputable def fX8_wear (N : Nat) (ft_w : Nat → Int32) (x1 : Int32) : Option (Int32 × (Nat → Int32)) := bd (fX8_in N (Int32.toInt64 x1) 0 9) fun r1 => (if r1 = 0 then some ((-1000000002), ft_w) else bd (fX8_set N ft_w 49 x1) fun (r4, g5) => some (r4, g5))
set_option maxHeartbeats 4000000 in
set_option maxRecDepth 100000 in
theorem ctX8_wear (l : Launch) (D : va_G) (cI cZ cB cS : ClassId) (kK kV : Nat → Nat) (sz : Nat) (qt qt_w qt_isKept qt_value qt_weight qt_newTube qt_newPrice qt_newLow qt_newHigh qt_newGoods qt_rhythm qt_rhythmLong qt_slug qt_text qt_of qt_buyerColumn qt_buyerKind qt_buyerCoins qt_tryRow qt_tryLong qt_tryFree : Nat) (it_kinds : Int32) (it_columns : Int32) (it_slugs : Int32) (it_newKinds : Int32) (it_newColumns : Int32) (it_newSlugs : Int32) (it_rhythmTold : Int32) (it_textSize : Int32) (it_at : Int32) (it_first : Int32) (it_length : Int32) (it_faultOf : Int32) (it_fault : Int32) (it_buyerMany : Int32) (it_tryMany : Int32) (ft_w : Nat → Int32) (x1 : Int32) (N : Nat) (r0 : Int32) (w_ft_w : Nat → Int32) (h : fX8_wear N ft_w x1 = some (r0, w_ft_w)) : CtI l yX8_wear wsX8_wear { frames := 1, cells := 0, slots := 0, locals := 25 } D (TY cI cZ cB cS) kK kV [.ref qt, .int x1] [(qt, .inr (8, [.ref qt_w, .ref qt_isKept, .ref qt_value, .ref qt_weight, .ref qt_newTube, .ref qt_newPrice, .ref qt_newLow, .ref qt_newHigh, .ref qt_newGoods, .ref qt_rhythm, .ref qt_rhythmLong, .ref qt_slug, .int it_kinds, .int it_columns, .int it_slugs, .int it_newKinds, .int it_newColumns, .int it_newSlugs, .int it_rhythmTold, .ref qt_text, .int it_textSize, .int it_at, .int it_first, .int it_length, .int it_faultOf, .int it_fault, .ref qt_of, .ref qt_buyerColumn, .ref qt_buyerKind, .ref qt_buyerCoins, .int it_buyerMany, .ref qt_tryRow, .ref qt_tryLong, .ref qt_tryFree, .int it_tryMany])), (qt_w, .inl (cI, 240, .inl ft_w))] [(qt, .inr (8, [.ref qt_w, .ref qt_isKept, .ref qt_value, .ref qt_weight, .ref qt_newTube, .ref qt_newPrice, .ref qt_newLow, .ref qt_newHigh, .ref qt_newGoods, .ref qt_rhythm, .ref qt_rhythmLong, .ref qt_slug, .int it_kinds, .int it_columns, .int it_slugs, .int it_newKinds, .int it_newColumns, .int it_newSlugs, .int it_rhythmTold, .ref qt_text, .int it_textSize, .int it_at, .int it_first, .int it_length, .int it_faultOf, .int it_fault, .ref qt_of, .ref qt_buyerColumn, .ref qt_buyerKind, .ref qt_buyerCoins, .int it_buyerMany, .ref qt_tryRow, .ref qt_tryLong, .ref qt_tryFree, .int it_tryMany])), (qt_w, .inl (cI, 240, .inl w_ft_w))] sz r0 := by
  refine mkI (cc := cX8_wear) (maxL := 2) (rt := .int) (own := RX8) (by decide) rfl rfl (Nat.le_of_ble_eq_true rfl) ?_
  intro p e s m args below meth c A Z ls hx hb hml hown hts hK hN hX hP hD hA hS hret hl
  have hl : lv_has ls 2 [(0, .ref qt), (1, .int x1)] := hl
  have cn233 : (Cond.constantLong RX8 233 (9)).before args s = true := hts _ (List.mem_of_getElem? (l := wsX8_wear) (i := 1) rfl)
  have cn81 : (Cond.constant RX8 81 (-1000000002)).before args s = true := hts _ (List.mem_of_getElem? (l := wsX8_wear) (i := 2) rfl)
  unfold fX8_wear at h
  refine lv_iload_n hx hb dX8_wear_0 rfl (lv_at hl 1 rfl) ?_
  refine lv_i2l (v := Int32.toInt64 x1) hx hb dX8_wear_1 rfl ?_
  refine lv_lconst (v := 0) hx hb dX8_wear_2 (by decide) ?_
  refine lv_ldc2 (v := 9) hx hb hown cn233 dX8_wear_3 ?_
  replace h := bd_el h
  obtain ⟨r1, hc2, h⟩ := h
  refine callSI (rest := []) ⟨hx, hb, hml, hown, hts⟩ (ctX8_in l D cI cZ cB cS kK kV _ (Int32.toInt64 x1) 0 9 N r1 hc2) (va_cwS 3 hts gX8_wear_X8_in rfl rfl rfl hdX8_in ⟨Nat.le_of_ble_eq_true rfl, Nat.le_of_ble_eq_true rfl⟩) hK hN hX hP (dF hD rfl) hS hA [] mcN (by decide +kernel) [(qt, .inr (8, [.ref qt_w, .ref qt_isKept, .ref qt_value, .ref qt_weight, .ref qt_newTube, .ref qt_newPrice, .ref qt_newLow, .ref qt_newHigh, .ref qt_newGoods, .ref qt_rhythm, .ref qt_rhythmLong, .ref qt_slug, .int it_kinds, .int it_columns, .int it_slugs, .int it_newKinds, .int it_newColumns, .int it_newSlugs, .int it_rhythmTold, .ref qt_text, .int it_textSize, .int it_at, .int it_first, .int it_length, .int it_faultOf, .int it_fault, .ref qt_of, .ref qt_buyerColumn, .ref qt_buyerKind, .ref qt_buyerCoins, .int it_buyerMany, .ref qt_tryRow, .ref qt_tryLong, .ref qt_tryFree, .int it_tryMany])), (qt_w, .inl (cI, 240, .inl ft_w))] [0, 1] mcN ((mcC rfl (mcC rfl mcN)).trans (mcC rfl (mcC rfl mcN)).symm) 2 rfl (by decide +kernel) rfl hl.1 rfl (Nat.le_of_ble_eq_true rfl) ⟨Nat.zero_le _, Nat.zero_le _⟩ dX8_wear_6 (fun H locs hP hS => ?_)
  refine lv_if_eq (tgt := 22) hx hb dX8_wear_9 (by decide) (fun c3 => ?_) (fun c3 => ?_)
  · replace h := if_t c3 h
    refine lv_ldc (v := (-1000000002)) hx hb hown cn81 dX8_wear_22 ?_
    simp only [Option.some.injEq, Prod.mk.injEq] at h
    obtain ⟨rfl, rfl⟩ := h
    exact hret _ _ _ _ hP hS rfl dX8_wear_24
  · replace h := if_f c3 h
    refine lv_aload_n hx hb dX8_wear_12 rfl (lv_at hl 0 rfl) ?_
    refine lv_bipush (v := 49) hx hb dX8_wear_13 (by decide) ?_
    refine lv_iload_n hx hb dX8_wear_15 rfl (lv_at hl 1 rfl) ?_
    replace h := bd_el h
    obtain ⟨⟨r4, g5⟩, hc6, h⟩ := h
    refine callVI (rest := []) ⟨hx, hb, hml, hown, hts⟩ (ctX8_set l D cI cZ cB cS kK kV _ qt qt_w qt_isKept qt_value qt_weight qt_newTube qt_newPrice qt_newLow qt_newHigh qt_newGoods qt_rhythm qt_rhythmLong qt_slug qt_text qt_of qt_buyerColumn qt_buyerKind qt_buyerCoins qt_tryRow qt_tryLong qt_tryFree it_kinds it_columns it_slugs it_newKinds it_newColumns it_newSlugs it_rhythmTold it_textSize it_at it_first it_length it_faultOf it_fault it_buyerMany it_tryMany ft_w 49 x1 N r4 g5 hc6) (cwV 2 hts gX8_wear_X8_set rfl rfl rfl hdX8_set ⟨Nat.le_of_ble_eq_true rfl, Nat.le_of_ble_eq_true rfl⟩) hK hN hX hP (dF hD rfl) hS hA [0, 1] (mcC rfl (mcC rfl mcN)) (by decide +kernel) [(qt, .inr (8, [.ref qt_w, .ref qt_isKept, .ref qt_value, .ref qt_weight, .ref qt_newTube, .ref qt_newPrice, .ref qt_newLow, .ref qt_newHigh, .ref qt_newGoods, .ref qt_rhythm, .ref qt_rhythmLong, .ref qt_slug, .int it_kinds, .int it_columns, .int it_slugs, .int it_newKinds, .int it_newColumns, .int it_newSlugs, .int it_rhythmTold, .ref qt_text, .int it_textSize, .int it_at, .int it_first, .int it_length, .int it_faultOf, .int it_fault, .ref qt_of, .ref qt_buyerColumn, .ref qt_buyerKind, .ref qt_buyerCoins, .int it_buyerMany, .ref qt_tryRow, .ref qt_tryLong, .ref qt_tryFree, .int it_tryMany])), (qt_w, .inl (cI, 240, .inl g5))] [] (mcC rfl (mcC rfl mcN)) (mcN.trans mcN.symm) 2 rfl (by decide +kernel) (va_recv hK hP (ci := 8) (q0 := 0) rfl rfl) rfl hl.1 rfl (Nat.le_of_ble_eq_true rfl) ⟨Nat.zero_le _, Nat.zero_le _⟩ dX8_wear_16 (fun H locs hP hS => ?_)
    refine lv_goto (tgt := 24) hx hb dX8_wear_19 (by decide) ?_
    simp only [Option.some.injEq, Prod.mk.injEq] at h
    obtain ⟨rfl, rfl⟩ := h
    exact hret _ _ _ _ hP hS rfl dX8_wear_24
theorem hdX8_wear : yX8_wear.cls = RX8 ∧ yX8_wear.cls ≠ "java/lang/invoke/MethodHandle" ∧ yX8_wear.cls ≠ "java/lang/invoke/VarHandle" ∧ (parseMethodDescriptor yX8_wear.desc).map (fun d => d.parameters.length) = some 1 := by decide +kernel

noncomputable def fX8_stock (N : Nat) (it_columns : Int32) (ft_w : Nat → Int32) (x1 : Int32) (x2 : Int32) : Option (Int32 × (Nat → Int32)) := bd (fX8_isColumn N it_columns x1) fun r1 => (if r1 = 0 then some ((-1000000001), ft_w) else bd (fX8_in N (Int32.toInt64 x2) 0 60) fun r4 => (if r4 = 0 then some ((-1000000002), ft_w) else bd (fX8_set N ft_w (5 + x1) x2) fun (r7, g8) => some (r7, g8)))
set_option maxHeartbeats 4000000 in
set_option maxRecDepth 100000 in
theorem ctX8_stock (l : Launch) (D : va_G) (cI cZ cB cS : ClassId) (kK kV : Nat → Nat) (sz : Nat) (qt qt_w qt_isKept qt_value qt_weight qt_newTube qt_newPrice qt_newLow qt_newHigh qt_newGoods qt_rhythm qt_rhythmLong qt_slug qt_text qt_of qt_buyerColumn qt_buyerKind qt_buyerCoins qt_tryRow qt_tryLong qt_tryFree : Nat) (it_kinds : Int32) (it_columns : Int32) (it_slugs : Int32) (it_newKinds : Int32) (it_newColumns : Int32) (it_newSlugs : Int32) (it_rhythmTold : Int32) (it_textSize : Int32) (it_at : Int32) (it_first : Int32) (it_length : Int32) (it_faultOf : Int32) (it_fault : Int32) (it_buyerMany : Int32) (it_tryMany : Int32) (ft_w : Nat → Int32) (x1 : Int32) (x2 : Int32) (N : Nat) (r0 : Int32) (w_ft_w : Nat → Int32) (h : fX8_stock N it_columns ft_w x1 x2 = some (r0, w_ft_w)) : CtI l yX8_stock wsX8_stock { frames := 2, cells := 0, slots := 0, locals := 46 } D (TY cI cZ cB cS) kK kV [.ref qt, .int x1, .int x2] [(qt, .inr (8, [.ref qt_w, .ref qt_isKept, .ref qt_value, .ref qt_weight, .ref qt_newTube, .ref qt_newPrice, .ref qt_newLow, .ref qt_newHigh, .ref qt_newGoods, .ref qt_rhythm, .ref qt_rhythmLong, .ref qt_slug, .int it_kinds, .int it_columns, .int it_slugs, .int it_newKinds, .int it_newColumns, .int it_newSlugs, .int it_rhythmTold, .ref qt_text, .int it_textSize, .int it_at, .int it_first, .int it_length, .int it_faultOf, .int it_fault, .ref qt_of, .ref qt_buyerColumn, .ref qt_buyerKind, .ref qt_buyerCoins, .int it_buyerMany, .ref qt_tryRow, .ref qt_tryLong, .ref qt_tryFree, .int it_tryMany])), (qt_w, .inl (cI, 240, .inl ft_w))] [(qt, .inr (8, [.ref qt_w, .ref qt_isKept, .ref qt_value, .ref qt_weight, .ref qt_newTube, .ref qt_newPrice, .ref qt_newLow, .ref qt_newHigh, .ref qt_newGoods, .ref qt_rhythm, .ref qt_rhythmLong, .ref qt_slug, .int it_kinds, .int it_columns, .int it_slugs, .int it_newKinds, .int it_newColumns, .int it_newSlugs, .int it_rhythmTold, .ref qt_text, .int it_textSize, .int it_at, .int it_first, .int it_length, .int it_faultOf, .int it_fault, .ref qt_of, .ref qt_buyerColumn, .ref qt_buyerKind, .ref qt_buyerCoins, .int it_buyerMany, .ref qt_tryRow, .ref qt_tryLong, .ref qt_tryFree, .int it_tryMany])), (qt_w, .inl (cI, 240, .inl w_ft_w))] sz r0 := by
  refine mkI (cc := cX8_stock) (maxL := 3) (rt := .int) (own := RX8) (by decide) rfl rfl (Nat.le_of_ble_eq_true rfl) ?_
  intro p e s m args below meth c A Z ls hx hb hml hown hts hK hN hX hP hD hA hS hret hl
  have hl : lv_has ls 3 [(0, .ref qt), (1, .int x1), (2, .int x2)] := hl
  have cn238 : (Cond.constantLong RX8 238 (60)).before args s = true := hts _ (List.mem_of_getElem? (l := wsX8_stock) (i := 2) rfl)
  have cn81 : (Cond.constant RX8 81 (-1000000002)).before args s = true := hts _ (List.mem_of_getElem? (l := wsX8_stock) (i := 3) rfl)
  have cn193 : (Cond.constant RX8 193 (-1000000001)).before args s = true := hts _ (List.mem_of_getElem? (l := wsX8_stock) (i := 1) rfl)
  unfold fX8_stock at h
  refine lv_aload_n hx hb dX8_stock_0 rfl (lv_at hl 0 rfl) ?_
  refine lv_iload_n hx hb dX8_stock_1 rfl (lv_at hl 1 rfl) ?_
  replace h := bd_el h
  obtain ⟨r1, hc2, h⟩ := h
  refine callVI (rest := []) ⟨hx, hb, hml, hown, hts⟩ (ctX8_isColumn l D cI cZ cB cS kK kV _ qt qt_w qt_isKept qt_value qt_weight qt_newTube qt_newPrice qt_newLow qt_newHigh qt_newGoods qt_rhythm qt_rhythmLong qt_slug qt_text qt_of qt_buyerColumn qt_buyerKind qt_buyerCoins qt_tryRow qt_tryLong qt_tryFree it_kinds it_columns it_slugs it_newKinds it_newColumns it_newSlugs it_rhythmTold it_textSize it_at it_first it_length it_faultOf it_fault it_buyerMany it_tryMany x1 N r1 hc2) (cwV 1 hts gX8_stock_X8_isColumn rfl rfl rfl hdX8_isColumn ⟨Nat.le_of_ble_eq_true rfl, Nat.le_of_ble_eq_true rfl⟩) hK hN hX hP (dF hD rfl) hS hA [0] (mcC rfl mcN) (by decide +kernel) [(qt, .inr (8, [.ref qt_w, .ref qt_isKept, .ref qt_value, .ref qt_weight, .ref qt_newTube, .ref qt_newPrice, .ref qt_newLow, .ref qt_newHigh, .ref qt_newGoods, .ref qt_rhythm, .ref qt_rhythmLong, .ref qt_slug, .int it_kinds, .int it_columns, .int it_slugs, .int it_newKinds, .int it_newColumns, .int it_newSlugs, .int it_rhythmTold, .ref qt_text, .int it_textSize, .int it_at, .int it_first, .int it_length, .int it_faultOf, .int it_fault, .ref qt_of, .ref qt_buyerColumn, .ref qt_buyerKind, .ref qt_buyerCoins, .int it_buyerMany, .ref qt_tryRow, .ref qt_tryLong, .ref qt_tryFree, .int it_tryMany])), (qt_w, .inl (cI, 240, .inl ft_w))] [1] (mcC rfl mcN) ((mcC rfl mcN).trans (mcC rfl mcN).symm) 2 rfl (by decide +kernel) (va_recv hK hP (ci := 8) (q0 := 0) rfl rfl) rfl hl.1 rfl (Nat.le_of_ble_eq_true rfl) ⟨Nat.zero_le _, Nat.zero_le _⟩ dX8_stock_2 (fun H locs hP hS => ?_)
  refine lv_if_ne (tgt := 13) hx hb dX8_stock_5 (by decide) (fun c3 => ?_) (fun c3 => ?_)
  · replace h := if_f c3 h
    refine lv_iload_n hx hb dX8_stock_13 rfl (lv_at hl 2 rfl) ?_
    refine lv_i2l (v := Int32.toInt64 x2) hx hb dX8_stock_14 rfl ?_
    refine lv_lconst (v := 0) hx hb dX8_stock_15 (by decide) ?_
    refine lv_ldc2 (v := 60) hx hb hown cn238 dX8_stock_16 ?_
    replace h := bd_el h
    obtain ⟨r4, hc5, h⟩ := h
    refine callSI (rest := []) ⟨hx, hb, hml, hown, hts⟩ (ctX8_in l D cI cZ cB cS kK kV _ (Int32.toInt64 x2) 0 60 N r4 hc5) (va_cwS 3 hts gX8_stock_X8_in rfl rfl rfl hdX8_in ⟨Nat.le_of_ble_eq_true rfl, Nat.le_of_ble_eq_true rfl⟩) hK hN hX hP (dF hD rfl) hS hA [] mcN (by decide +kernel) [(qt, .inr (8, [.ref qt_w, .ref qt_isKept, .ref qt_value, .ref qt_weight, .ref qt_newTube, .ref qt_newPrice, .ref qt_newLow, .ref qt_newHigh, .ref qt_newGoods, .ref qt_rhythm, .ref qt_rhythmLong, .ref qt_slug, .int it_kinds, .int it_columns, .int it_slugs, .int it_newKinds, .int it_newColumns, .int it_newSlugs, .int it_rhythmTold, .ref qt_text, .int it_textSize, .int it_at, .int it_first, .int it_length, .int it_faultOf, .int it_fault, .ref qt_of, .ref qt_buyerColumn, .ref qt_buyerKind, .ref qt_buyerCoins, .int it_buyerMany, .ref qt_tryRow, .ref qt_tryLong, .ref qt_tryFree, .int it_tryMany])), (qt_w, .inl (cI, 240, .inl ft_w))] [0, 1] mcN ((mcC rfl (mcC rfl mcN)).trans (mcC rfl (mcC rfl mcN)).symm) 2 rfl (by decide +kernel) rfl hl.1 rfl (Nat.le_of_ble_eq_true rfl) ⟨Nat.zero_le _, Nat.zero_le _⟩ dX8_stock_19 (fun H locs hP hS => ?_)
    refine lv_if_eq (tgt := 36) hx hb dX8_stock_22 (by decide) (fun c6 => ?_) (fun c6 => ?_)
    · replace h := if_t c6 h
      refine lv_ldc (v := (-1000000002)) hx hb hown cn81 dX8_stock_36 ?_
      simp only [Option.some.injEq, Prod.mk.injEq] at h
      obtain ⟨rfl, rfl⟩ := h
      exact hret _ _ _ _ hP hS rfl dX8_stock_38
    · replace h := if_f c6 h
      refine lv_aload_n hx hb dX8_stock_25 rfl (lv_at hl 0 rfl) ?_
      refine lv_iconst (v := 5) hx hb dX8_stock_26 (by decide) ?_
      refine lv_iload_n hx hb dX8_stock_27 rfl (lv_at hl 1 rfl) ?_
      refine lv_iadd hx hb dX8_stock_28 ?_
      refine lv_iload_n hx hb dX8_stock_29 rfl (lv_at hl 2 rfl) ?_
      replace h := bd_el h
      obtain ⟨⟨r7, g8⟩, hc9, h⟩ := h
      refine callVI (rest := []) ⟨hx, hb, hml, hown, hts⟩ (ctX8_set l D cI cZ cB cS kK kV _ qt qt_w qt_isKept qt_value qt_weight qt_newTube qt_newPrice qt_newLow qt_newHigh qt_newGoods qt_rhythm qt_rhythmLong qt_slug qt_text qt_of qt_buyerColumn qt_buyerKind qt_buyerCoins qt_tryRow qt_tryLong qt_tryFree it_kinds it_columns it_slugs it_newKinds it_newColumns it_newSlugs it_rhythmTold it_textSize it_at it_first it_length it_faultOf it_fault it_buyerMany it_tryMany ft_w (5 + x1) x2 N r7 g8 hc9) (cwV 2 hts gX8_stock_X8_set rfl rfl rfl hdX8_set ⟨Nat.le_of_ble_eq_true rfl, Nat.le_of_ble_eq_true rfl⟩) hK hN hX hP (dF hD rfl) hS hA [0, 1] (mcC rfl (mcC rfl mcN)) (by decide +kernel) [(qt, .inr (8, [.ref qt_w, .ref qt_isKept, .ref qt_value, .ref qt_weight, .ref qt_newTube, .ref qt_newPrice, .ref qt_newLow, .ref qt_newHigh, .ref qt_newGoods, .ref qt_rhythm, .ref qt_rhythmLong, .ref qt_slug, .int it_kinds, .int it_columns, .int it_slugs, .int it_newKinds, .int it_newColumns, .int it_newSlugs, .int it_rhythmTold, .ref qt_text, .int it_textSize, .int it_at, .int it_first, .int it_length, .int it_faultOf, .int it_fault, .ref qt_of, .ref qt_buyerColumn, .ref qt_buyerKind, .ref qt_buyerCoins, .int it_buyerMany, .ref qt_tryRow, .ref qt_tryLong, .ref qt_tryFree, .int it_tryMany])), (qt_w, .inl (cI, 240, .inl g8))] [] (mcC rfl (mcC rfl mcN)) (mcN.trans mcN.symm) 2 rfl (by decide +kernel) (va_recv hK hP (ci := 8) (q0 := 0) rfl rfl) rfl hl.1 rfl (Nat.le_of_ble_eq_true rfl) ⟨Nat.zero_le _, Nat.zero_le _⟩ dX8_stock_30 (fun H locs hP hS => ?_)
      refine lv_goto (tgt := 38) hx hb dX8_stock_33 (by decide) ?_
      simp only [Option.some.injEq, Prod.mk.injEq] at h
      obtain ⟨rfl, rfl⟩ := h
      exact hret _ _ _ _ hP hS rfl dX8_stock_38
  · replace h := if_t c3 h
    refine lv_ldc (v := (-1000000001)) hx hb hown cn193 dX8_stock_8 ?_
    refine lv_goto (tgt := 38) hx hb dX8_stock_10 (by decide) ?_
    simp only [Option.some.injEq, Prod.mk.injEq] at h
    obtain ⟨rfl, rfl⟩ := h
    exact hret _ _ _ _ hP hS rfl dX8_stock_38
theorem hdX8_stock : yX8_stock.cls = RX8 ∧ yX8_stock.cls ≠ "java/lang/invoke/MethodHandle" ∧ yX8_stock.cls ≠ "java/lang/invoke/VarHandle" ∧ (parseMethodDescriptor yX8_stock.desc).map (fun d => d.parameters.length) = some 2 := by decide +kernel

noncomputable def fX8_tube (N : Nat) (it_kinds : Int32) (ft_w : Nat → Int32) (x1 : Int32) (x2 : Int32) : Option (Int32 × (Nat → Int32)) := bd (fX8_isKind N it_kinds x1) fun r1 => (if r1 = 0 then some ((-1000000001), ft_w) else bd (fX8_in N (Int32.toInt64 x2) 0 60) fun r4 => (if r4 = 0 then some ((-1000000002), ft_w) else bd (fX8_set N ft_w x1 x2) fun (r7, g8) => some (r7, g8)))
set_option maxHeartbeats 4000000 in
set_option maxRecDepth 100000 in
theorem ctX8_tube (l : Launch) (D : va_G) (cI cZ cB cS : ClassId) (kK kV : Nat → Nat) (sz : Nat) (qt qt_w qt_isKept qt_value qt_weight qt_newTube qt_newPrice qt_newLow qt_newHigh qt_newGoods qt_rhythm qt_rhythmLong qt_slug qt_text qt_of qt_buyerColumn qt_buyerKind qt_buyerCoins qt_tryRow qt_tryLong qt_tryFree : Nat) (it_kinds : Int32) (it_columns : Int32) (it_slugs : Int32) (it_newKinds : Int32) (it_newColumns : Int32) (it_newSlugs : Int32) (it_rhythmTold : Int32) (it_textSize : Int32) (it_at : Int32) (it_first : Int32) (it_length : Int32) (it_faultOf : Int32) (it_fault : Int32) (it_buyerMany : Int32) (it_tryMany : Int32) (ft_w : Nat → Int32) (x1 : Int32) (x2 : Int32) (N : Nat) (r0 : Int32) (w_ft_w : Nat → Int32) (h : fX8_tube N it_kinds ft_w x1 x2 = some (r0, w_ft_w)) : CtI l yX8_tube wsX8_tube { frames := 2, cells := 0, slots := 0, locals := 46 } D (TY cI cZ cB cS) kK kV [.ref qt, .int x1, .int x2] [(qt, .inr (8, [.ref qt_w, .ref qt_isKept, .ref qt_value, .ref qt_weight, .ref qt_newTube, .ref qt_newPrice, .ref qt_newLow, .ref qt_newHigh, .ref qt_newGoods, .ref qt_rhythm, .ref qt_rhythmLong, .ref qt_slug, .int it_kinds, .int it_columns, .int it_slugs, .int it_newKinds, .int it_newColumns, .int it_newSlugs, .int it_rhythmTold, .ref qt_text, .int it_textSize, .int it_at, .int it_first, .int it_length, .int it_faultOf, .int it_fault, .ref qt_of, .ref qt_buyerColumn, .ref qt_buyerKind, .ref qt_buyerCoins, .int it_buyerMany, .ref qt_tryRow, .ref qt_tryLong, .ref qt_tryFree, .int it_tryMany])), (qt_w, .inl (cI, 240, .inl ft_w))] [(qt, .inr (8, [.ref qt_w, .ref qt_isKept, .ref qt_value, .ref qt_weight, .ref qt_newTube, .ref qt_newPrice, .ref qt_newLow, .ref qt_newHigh, .ref qt_newGoods, .ref qt_rhythm, .ref qt_rhythmLong, .ref qt_slug, .int it_kinds, .int it_columns, .int it_slugs, .int it_newKinds, .int it_newColumns, .int it_newSlugs, .int it_rhythmTold, .ref qt_text, .int it_textSize, .int it_at, .int it_first, .int it_length, .int it_faultOf, .int it_fault, .ref qt_of, .ref qt_buyerColumn, .ref qt_buyerKind, .ref qt_buyerCoins, .int it_buyerMany, .ref qt_tryRow, .ref qt_tryLong, .ref qt_tryFree, .int it_tryMany])), (qt_w, .inl (cI, 240, .inl w_ft_w))] sz r0 := by
  refine mkI (cc := cX8_tube) (maxL := 3) (rt := .int) (own := RX8) (by decide) rfl rfl (Nat.le_of_ble_eq_true rfl) ?_
  intro p e s m args below meth c A Z ls hx hb hml hown hts hK hN hX hP hD hA hS hret hl
  have hl : lv_has ls 3 [(0, .ref qt), (1, .int x1), (2, .int x2)] := hl
  have cn238 : (Cond.constantLong RX8 238 (60)).before args s = true := hts _ (List.mem_of_getElem? (l := wsX8_tube) (i := 2) rfl)
  have cn81 : (Cond.constant RX8 81 (-1000000002)).before args s = true := hts _ (List.mem_of_getElem? (l := wsX8_tube) (i := 3) rfl)
  have cn193 : (Cond.constant RX8 193 (-1000000001)).before args s = true := hts _ (List.mem_of_getElem? (l := wsX8_tube) (i := 1) rfl)
  unfold fX8_tube at h
  refine lv_aload_n hx hb dX8_tube_0 rfl (lv_at hl 0 rfl) ?_
  refine lv_iload_n hx hb dX8_tube_1 rfl (lv_at hl 1 rfl) ?_
  replace h := bd_el h
  obtain ⟨r1, hc2, h⟩ := h
  refine callVI (rest := []) ⟨hx, hb, hml, hown, hts⟩ (ctX8_isKind l D cI cZ cB cS kK kV _ qt qt_w qt_isKept qt_value qt_weight qt_newTube qt_newPrice qt_newLow qt_newHigh qt_newGoods qt_rhythm qt_rhythmLong qt_slug qt_text qt_of qt_buyerColumn qt_buyerKind qt_buyerCoins qt_tryRow qt_tryLong qt_tryFree it_kinds it_columns it_slugs it_newKinds it_newColumns it_newSlugs it_rhythmTold it_textSize it_at it_first it_length it_faultOf it_fault it_buyerMany it_tryMany x1 N r1 hc2) (cwV 1 hts gX8_tube_X8_isKind rfl rfl rfl hdX8_isKind ⟨Nat.le_of_ble_eq_true rfl, Nat.le_of_ble_eq_true rfl⟩) hK hN hX hP (dF hD rfl) hS hA [0] (mcC rfl mcN) (by decide +kernel) [(qt, .inr (8, [.ref qt_w, .ref qt_isKept, .ref qt_value, .ref qt_weight, .ref qt_newTube, .ref qt_newPrice, .ref qt_newLow, .ref qt_newHigh, .ref qt_newGoods, .ref qt_rhythm, .ref qt_rhythmLong, .ref qt_slug, .int it_kinds, .int it_columns, .int it_slugs, .int it_newKinds, .int it_newColumns, .int it_newSlugs, .int it_rhythmTold, .ref qt_text, .int it_textSize, .int it_at, .int it_first, .int it_length, .int it_faultOf, .int it_fault, .ref qt_of, .ref qt_buyerColumn, .ref qt_buyerKind, .ref qt_buyerCoins, .int it_buyerMany, .ref qt_tryRow, .ref qt_tryLong, .ref qt_tryFree, .int it_tryMany])), (qt_w, .inl (cI, 240, .inl ft_w))] [1] (mcC rfl mcN) ((mcC rfl mcN).trans (mcC rfl mcN).symm) 2 rfl (by decide +kernel) (va_recv hK hP (ci := 8) (q0 := 0) rfl rfl) rfl hl.1 rfl (Nat.le_of_ble_eq_true rfl) ⟨Nat.zero_le _, Nat.zero_le _⟩ dX8_tube_2 (fun H locs hP hS => ?_)
  refine lv_if_ne (tgt := 13) hx hb dX8_tube_5 (by decide) (fun c3 => ?_) (fun c3 => ?_)
  · replace h := if_f c3 h
    refine lv_iload_n hx hb dX8_tube_13 rfl (lv_at hl 2 rfl) ?_
    refine lv_i2l (v := Int32.toInt64 x2) hx hb dX8_tube_14 rfl ?_
    refine lv_lconst (v := 0) hx hb dX8_tube_15 (by decide) ?_
    refine lv_ldc2 (v := 60) hx hb hown cn238 dX8_tube_16 ?_
    replace h := bd_el h
    obtain ⟨r4, hc5, h⟩ := h
    refine callSI (rest := []) ⟨hx, hb, hml, hown, hts⟩ (ctX8_in l D cI cZ cB cS kK kV _ (Int32.toInt64 x2) 0 60 N r4 hc5) (va_cwS 3 hts gX8_tube_X8_in rfl rfl rfl hdX8_in ⟨Nat.le_of_ble_eq_true rfl, Nat.le_of_ble_eq_true rfl⟩) hK hN hX hP (dF hD rfl) hS hA [] mcN (by decide +kernel) [(qt, .inr (8, [.ref qt_w, .ref qt_isKept, .ref qt_value, .ref qt_weight, .ref qt_newTube, .ref qt_newPrice, .ref qt_newLow, .ref qt_newHigh, .ref qt_newGoods, .ref qt_rhythm, .ref qt_rhythmLong, .ref qt_slug, .int it_kinds, .int it_columns, .int it_slugs, .int it_newKinds, .int it_newColumns, .int it_newSlugs, .int it_rhythmTold, .ref qt_text, .int it_textSize, .int it_at, .int it_first, .int it_length, .int it_faultOf, .int it_fault, .ref qt_of, .ref qt_buyerColumn, .ref qt_buyerKind, .ref qt_buyerCoins, .int it_buyerMany, .ref qt_tryRow, .ref qt_tryLong, .ref qt_tryFree, .int it_tryMany])), (qt_w, .inl (cI, 240, .inl ft_w))] [0, 1] mcN ((mcC rfl (mcC rfl mcN)).trans (mcC rfl (mcC rfl mcN)).symm) 2 rfl (by decide +kernel) rfl hl.1 rfl (Nat.le_of_ble_eq_true rfl) ⟨Nat.zero_le _, Nat.zero_le _⟩ dX8_tube_19 (fun H locs hP hS => ?_)
    refine lv_if_eq (tgt := 34) hx hb dX8_tube_22 (by decide) (fun c6 => ?_) (fun c6 => ?_)
    · replace h := if_t c6 h
      refine lv_ldc (v := (-1000000002)) hx hb hown cn81 dX8_tube_34 ?_
      simp only [Option.some.injEq, Prod.mk.injEq] at h
      obtain ⟨rfl, rfl⟩ := h
      exact hret _ _ _ _ hP hS rfl dX8_tube_36
    · replace h := if_f c6 h
      refine lv_aload_n hx hb dX8_tube_25 rfl (lv_at hl 0 rfl) ?_
      refine lv_iload_n hx hb dX8_tube_26 rfl (lv_at hl 1 rfl) ?_
      refine lv_iload_n hx hb dX8_tube_27 rfl (lv_at hl 2 rfl) ?_
      replace h := bd_el h
      obtain ⟨⟨r7, g8⟩, hc9, h⟩ := h
      refine callVI (rest := []) ⟨hx, hb, hml, hown, hts⟩ (ctX8_set l D cI cZ cB cS kK kV _ qt qt_w qt_isKept qt_value qt_weight qt_newTube qt_newPrice qt_newLow qt_newHigh qt_newGoods qt_rhythm qt_rhythmLong qt_slug qt_text qt_of qt_buyerColumn qt_buyerKind qt_buyerCoins qt_tryRow qt_tryLong qt_tryFree it_kinds it_columns it_slugs it_newKinds it_newColumns it_newSlugs it_rhythmTold it_textSize it_at it_first it_length it_faultOf it_fault it_buyerMany it_tryMany ft_w x1 x2 N r7 g8 hc9) (cwV 2 hts gX8_tube_X8_set rfl rfl rfl hdX8_set ⟨Nat.le_of_ble_eq_true rfl, Nat.le_of_ble_eq_true rfl⟩) hK hN hX hP (dF hD rfl) hS hA [0, 1] (mcC rfl (mcC rfl mcN)) (by decide +kernel) [(qt, .inr (8, [.ref qt_w, .ref qt_isKept, .ref qt_value, .ref qt_weight, .ref qt_newTube, .ref qt_newPrice, .ref qt_newLow, .ref qt_newHigh, .ref qt_newGoods, .ref qt_rhythm, .ref qt_rhythmLong, .ref qt_slug, .int it_kinds, .int it_columns, .int it_slugs, .int it_newKinds, .int it_newColumns, .int it_newSlugs, .int it_rhythmTold, .ref qt_text, .int it_textSize, .int it_at, .int it_first, .int it_length, .int it_faultOf, .int it_fault, .ref qt_of, .ref qt_buyerColumn, .ref qt_buyerKind, .ref qt_buyerCoins, .int it_buyerMany, .ref qt_tryRow, .ref qt_tryLong, .ref qt_tryFree, .int it_tryMany])), (qt_w, .inl (cI, 240, .inl g8))] [] (mcC rfl (mcC rfl mcN)) (mcN.trans mcN.symm) 2 rfl (by decide +kernel) (va_recv hK hP (ci := 8) (q0 := 0) rfl rfl) rfl hl.1 rfl (Nat.le_of_ble_eq_true rfl) ⟨Nat.zero_le _, Nat.zero_le _⟩ dX8_tube_28 (fun H locs hP hS => ?_)
      refine lv_goto (tgt := 36) hx hb dX8_tube_31 (by decide) ?_
      simp only [Option.some.injEq, Prod.mk.injEq] at h
      obtain ⟨rfl, rfl⟩ := h
      exact hret _ _ _ _ hP hS rfl dX8_tube_36
  · replace h := if_t c3 h
    refine lv_ldc (v := (-1000000001)) hx hb hown cn193 dX8_tube_8 ?_
    refine lv_goto (tgt := 36) hx hb dX8_tube_10 (by decide) ?_
    simp only [Option.some.injEq, Prod.mk.injEq] at h
    obtain ⟨rfl, rfl⟩ := h
    exact hret _ _ _ _ hP hS rfl dX8_tube_36
theorem hdX8_tube : yX8_tube.cls = RX8 ∧ yX8_tube.cls ≠ "java/lang/invoke/MethodHandle" ∧ yX8_tube.cls ≠ "java/lang/invoke/VarHandle" ∧ (parseMethodDescriptor yX8_tube.desc).map (fun d => d.parameters.length) = some 2 := by decide +kernel
