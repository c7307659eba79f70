noncomputable def fX8_fewest_L33 (N : Nat) : Nat → Int32 → Int32 → Int32 → Int32 → Int32 → Int32 → (Nat → Int32) → (Nat → Int32) → (Nat → Int32) → (Nat → Int32) → Option (Int32 × (Nat → Int32) × (Nat → Int32))
  | 0, _, _, _, _, _, _, _, _, _, _ => none
  | k + 1, x1, x2, x3, x4, x5, it_kinds, ft_of, ft_value, ft_w, ft_weight => bd (fX8_codes N it_kinds) fun r1 => (if r1 ≤ x5 then some (x3, ft_of, ft_w) else bd (fX8_layRow N it_kinds ft_of x5) fun (r4, g5) => bd (fX8_in N (Int32.toInt64 r4) 1 (Int32.toInt64 (x4 - 1))) fun r7 => (if r7 = 0 then lt (x5 + 1) fun n10 => fX8_fewest_L33 N k x1 x2 x3 x4 n10 it_kinds g5 ft_value ft_w ft_weight else bd (fX8_gets N it_kinds g5 ft_value ft_w ft_weight x1) fun (r11, g12) => (if r11 = 0 then lt (x5 + 1) fun n15 => fX8_fewest_L33 N k x1 x2 x3 x4 n15 it_kinds g5 ft_value g12 ft_weight else lt (x5 + 1) fun n16 => fX8_fewest_L33 N k x1 x2 x5 r4 n16 it_kinds g5 ft_value g12 ft_weight)))
theorem fX8_fewest_L33_s (N : Nat) (k : Nat) (x1 : Int32) (x2 : Int32) (x3 : Int32) (x4 : Int32) (x5 : Int32) (it_kinds : Int32) (ft_of : Nat → Int32) (ft_value : Nat → Int32) (ft_w : Nat → Int32) (ft_weight : Nat → Int32) : fX8_fewest_L33 N (k + 1) x1 x2 x3 x4 x5 it_kinds ft_of ft_value ft_w ft_weight = (bd (fX8_codes N it_kinds) fun r1 => (if r1 ≤ x5 then some (x3, ft_of, ft_w) else bd (fX8_layRow N it_kinds ft_of x5) fun (r4, g5) => bd (fX8_in N (Int32.toInt64 r4) 1 (Int32.toInt64 (x4 - 1))) fun r7 => (if r7 = 0 then lt (x5 + 1) fun n10 => fX8_fewest_L33 N k x1 x2 x3 x4 n10 it_kinds g5 ft_value ft_w ft_weight else bd (fX8_gets N it_kinds g5 ft_value ft_w ft_weight x1) fun (r11, g12) => (if r11 = 0 then lt (x5 + 1) fun n15 => fX8_fewest_L33 N k x1 x2 x3 x4 n15 it_kinds g5 ft_value g12 ft_weight else lt (x5 + 1) fun n16 => fX8_fewest_L33 N k x1 x2 x5 r4 n16 it_kinds g5 ft_value g12 ft_weight)))) := rfl
noncomputable def fX8_fewest (N : Nat) (it_kinds : Int32) (it_columns : Int32) (ft_of : Nat → Int32) (ft_value : Nat → Int32) (ft_w : Nat → Int32) (ft_weight : Nat → Int32) (x1 : Int32) (x2 : Int32) : Option (Int32 × (Nat → Int32) × (Nat → Int32)) := bd (fX8_isColumn N it_columns x1) fun r17 => (if r17 = 0 then some ((-1000000001), ft_of, ft_w) else (if x2 = (-1) then bd (fX8_fewest_L33 N N x1 x2 (-1) 9 0 it_kinds ft_of ft_value ft_w ft_weight) fun (n22, g23, g24) => (if 0 ≤ n22 then bd (fX8_layRow N it_kinds g23 n22) fun (r26, g27) => (if 0 ≤ x2 then ck x2 5 (lt (g27 (Int32.toNatClampNeg x2)) fun n31 => some (n31, g27, g24)) else some (r26, g27, g24)) else some ((-1), g23, g24)) else bd (fX8_isKind N it_kinds x2) fun r32 => (if r32 = 0 then some ((-1000000001), ft_of, ft_w) else bd (fX8_fewest_L33 N N x1 x2 (-1) 9 0 it_kinds ft_of ft_value ft_w ft_weight) fun (n36, g37, g38) => (if 0 ≤ n36 then bd (fX8_layRow N it_kinds g37 n36) fun (r40, g41) => (if 0 ≤ x2 then ck x2 5 (lt (g41 (Int32.toNatClampNeg x2)) fun n45 => some (n45, g41, g38)) else some (r40, g41, g38)) else some ((-1), g37, g38)))))
set_option maxHeartbeats 4000000 in
set_option maxRecDepth 100000 in
theorem ctX8_fewest (l : Launch) (D : va_G) (cI cZ cB cS : ClassId) (kK kV : Nat → Nat) (sz : Nat) (qt qt_w qt_isKept qt_value qt_weight qt_newTube qt_newPrice qt_newLow qt_newHigh qt_newGoods qt_rhythm qt_rhythmLong qt_slug qt_text qt_of qt_buyerColumn qt_buyerKind qt_buyerCoins qt_tryRow qt_tryLong qt_tryFree : Nat) (it_kinds : Int32) (it_columns : Int32) (it_slugs : Int32) (it_newKinds : Int32) (it_newColumns : Int32) (it_newSlugs : Int32) (it_rhythmTold : Int32) (it_textSize : Int32) (it_at : Int32) (it_first : Int32) (it_length : Int32) (it_faultOf : Int32) (it_fault : Int32) (it_buyerMany : Int32) (it_tryMany : Int32) (ft_of : Nat → Int32) (ft_value : Nat → Int32) (ft_w : Nat → Int32) (ft_weight : Nat → Int32) (x1 : Int32) (x2 : Int32) (N : Nat) (r0 : Int32) (w_ft_of : Nat → Int32) (w_ft_w : Nat → Int32) (h : fX8_fewest N it_kinds it_columns ft_of ft_value ft_w ft_weight x1 x2 = some (r0, w_ft_of, w_ft_w)) : CtI l yX8_fewest wsX8_fewest { frames := 4, cells := 0, slots := 0, locals := 94 } D (TY cI cZ cB cS) kK kV [.ref qt, .int x1, .int x2] [(qt, .inr (8, [.ref qt_w, .ref qt_isKept, .ref qt_value, .ref qt_weight, .ref qt_newTube, .ref qt_newPrice, .ref qt_newLow, .ref qt_newHigh, .ref qt_newGoods, .ref qt_rhythm, .ref qt_rhythmLong, .ref qt_slug, .int it_kinds, .int it_columns, .int it_slugs, .int it_newKinds, .int it_newColumns, .int it_newSlugs, .int it_rhythmTold, .ref qt_text, .int it_textSize, .int it_at, .int it_first, .int it_length, .int it_faultOf, .int it_fault, .ref qt_of, .ref qt_buyerColumn, .ref qt_buyerKind, .ref qt_buyerCoins, .int it_buyerMany, .ref qt_tryRow, .ref qt_tryLong, .ref qt_tryFree, .int it_tryMany])), (qt_of, .inl (cI, 5, .inl ft_of)), (qt_value, .inl (cI, 10, .inl ft_value)), (qt_w, .inl (cI, 240, .inl ft_w)), (qt_weight, .inl (cI, 10, .inl ft_weight))] [(qt, .inr (8, [.ref qt_w, .ref qt_isKept, .ref qt_value, .ref qt_weight, .ref qt_newTube, .ref qt_newPrice, .ref qt_newLow, .ref qt_newHigh, .ref qt_newGoods, .ref qt_rhythm, .ref qt_rhythmLong, .ref qt_slug, .int it_kinds, .int it_columns, .int it_slugs, .int it_newKinds, .int it_newColumns, .int it_newSlugs, .int it_rhythmTold, .ref qt_text, .int it_textSize, .int it_at, .int it_first, .int it_length, .int it_faultOf, .int it_fault, .ref qt_of, .ref qt_buyerColumn, .ref qt_buyerKind, .ref qt_buyerCoins, .int it_buyerMany, .ref qt_tryRow, .ref qt_tryLong, .ref qt_tryFree, .int it_tryMany])), (qt_of, .inl (cI, 5, .inl w_ft_of)), (qt_value, .inl (cI, 10, .inl ft_value)), (qt_w, .inl (cI, 240, .inl w_ft_w)), (qt_weight, .inl (cI, 10, .inl ft_weight))] sz r0 := by
  refine mkI (cc := cX8_fewest) (maxL := 7) (rt := .int) (own := RX8) (by decide) rfl rfl (Nat.le_of_ble_eq_true rfl) ?_
  intro p e s m args below meth c A Z ls hx hb hml hown hts hK hN hX hP hD hA hS hret hl
  have hl : lv_has ls 7 [(0, .ref qt), (1, .int x1), (2, .int x2)] := hl
  have cn193 : (Cond.constant RX8 193 (-1000000001)).before args s = true := hts _ (List.mem_of_getElem? (l := wsX8_fewest) (i := 1) rfl)
  have fl54 : (Cond.fieldLink RX8 54 "SoupWallModel" "of" "[I").before args s = true := hts _ (List.mem_of_getElem? (l := wsX8_fewest) (i := 2) rfl)
  have hiX8 : ∀ w ∈ wsX80, w ∈ wsX8_fewest := fun w h => List.mem_cons_of_mem _ (List.mem_append_right _ h)
  have lp33 : ∀ (k : Nat) (x1 : Int32) (x2 : Int32) (x3 : Int32) (x4 : Int32) (x5 : Int32) (ft_of : Nat → Int32) (ft_w : Nat → Int32) (H : Heap) (locs : List Loc) (ls : Array Slot) (o : Int32 × (Nat → Int32) × (Nat → Int32)), fX8_fewest_L33 N k x1 x2 x3 x4 x5 it_kinds ft_of ft_value ft_w ft_weight = some o → va_P D vwCl [(qt, .inr (8, [.ref qt_w, .ref qt_isKept, .ref qt_value, .ref qt_weight, .ref qt_newTube, .ref qt_newPrice, .ref qt_newLow, .ref qt_newHigh, .ref qt_newGoods, .ref qt_rhythm, .ref qt_rhythmLong, .ref qt_slug, .int it_kinds, .int it_columns, .int it_slugs, .int it_newKinds, .int it_newColumns, .int it_newSlugs, .int it_rhythmTold, .ref qt_text, .int it_textSize, .int it_at, .int it_first, .int it_length, .int it_faultOf, .int it_fault, .ref qt_of, .ref qt_buyerColumn, .ref qt_buyerKind, .ref qt_buyerCoins, .int it_buyerMany, .ref qt_tryRow, .ref qt_tryLong, .ref qt_tryFree, .int it_tryMany])), (qt_of, .inl (cI, 5, .inl ft_of)), (qt_value, .inl (cI, 10, .inl ft_value)), (qt_w, .inl (cI, 240, .inl ft_w)), (qt_weight, .inl (cI, 10, .inl ft_weight))] H → va_S A s.heap H locs → lv_has ls 7 [(0, .ref qt), (1, .int x1), (2, .int x2), (3, .int x3), (4, .int x4), (5, .int x5)] → (∀ (e3 : Int32) (e_ft_of : Nat → Int32) (e_ft_w : Nat → Int32), (e3, e_ft_of, e_ft_w) = o → ∀ (H : Heap) (locs : List Loc) (ls : Array Slot), va_P D vwCl [(qt, .inr (8, [.ref qt_w, .ref qt_isKept, .ref qt_value, .ref qt_weight, .ref qt_newTube, .ref qt_newPrice, .ref qt_newLow, .ref qt_newHigh, .ref qt_newGoods, .ref qt_rhythm, .ref qt_rhythmLong, .ref qt_slug, .int it_kinds, .int it_columns, .int it_slugs, .int it_newKinds, .int it_newColumns, .int it_newSlugs, .int it_rhythmTold, .ref qt_text, .int it_textSize, .int it_at, .int it_first, .int it_length, .int it_faultOf, .int it_fault, .ref qt_of, .ref qt_buyerColumn, .ref qt_buyerKind, .ref qt_buyerCoins, .int it_buyerMany, .ref qt_tryRow, .ref qt_tryLong, .ref qt_tryFree, .int it_tryMany])), (qt_of, .inl (cI, 5, .inl e_ft_of)), (qt_value, .inl (cI, 10, .inl ft_value)), (qt_w, .inl (cI, 240, .inl e_ft_w)), (qt_weight, .inl (cI, 10, .inl ft_weight))] H → va_S A s.heap H locs → lv_has ls 7 [(0, .ref qt), (2, .int x2), (3, .int e3)] → W p l e ({ frames := 4, cells := 0, slots := 0, locals := 94 } : Room) s m args below meth c H locs 0 0 Z (F0 m 86 ls [])) → W p l e ({ frames := 4, cells := 0, slots := 0, locals := 94 } : Room) s m args below meth c H locs 0 0 Z (F0 m 33 ls []) := by
    intro k
    induction k with
    | zero =>
      intro x1 x2 x3 x4 x5 ft_of ft_w H locs ls o h
      exact nomatch (show (none : Option (Int32 × (Nat → Int32) × (Nat → Int32))) = some o from h)
    | succ k ih =>
      intro x1 x2 x3 x4 x5 ft_of ft_w H locs ls o h hP hS hl K
      rw [fX8_fewest_L33_s] at h
      refine lv_iload hx hb dX8_fewest_33 (lv_at hl 5 rfl) ?_
      refine lv_aload_n hx hb dX8_fewest_35 rfl (lv_at hl 0 rfl) ?_
      replace h := bd_el h
      obtain ⟨r1, hc2, h⟩ := h
      refine callVI (rest := [.int x5]) ⟨hx, hb, hml, hown, hts⟩ (ctX8_codes l D cI cZ cB cS kK kV _ qt qt_w qt_isKept qt_value qt_weight qt_newTube qt_newPrice qt_newLow qt_newHigh qt_newGoods qt_rhythm qt_rhythmLong qt_slug qt_text qt_of qt_buyerColumn qt_buyerKind qt_buyerCoins qt_tryRow qt_tryLong qt_tryFree it_kinds it_columns it_slugs it_newKinds it_newColumns it_newSlugs it_rhythmTold it_textSize it_at it_first it_length it_faultOf it_fault it_buyerMany it_tryMany N r1 hc2) (cwV 0 hts gX8_fewest_X8_codes rfl rfl rfl hdX8_codes ⟨Nat.le_of_ble_eq_true rfl, Nat.le_of_ble_eq_true rfl⟩) hK hN hX hP (dF hD rfl) hS hA [0] (mcC rfl mcN) (by decide +kernel) [(qt, .inr (8, [.ref qt_w, .ref qt_isKept, .ref qt_value, .ref qt_weight, .ref qt_newTube, .ref qt_newPrice, .ref qt_newLow, .ref qt_newHigh, .ref qt_newGoods, .ref qt_rhythm, .ref qt_rhythmLong, .ref qt_slug, .int it_kinds, .int it_columns, .int it_slugs, .int it_newKinds, .int it_newColumns, .int it_newSlugs, .int it_rhythmTold, .ref qt_text, .int it_textSize, .int it_at, .int it_first, .int it_length, .int it_faultOf, .int it_fault, .ref qt_of, .ref qt_buyerColumn, .ref qt_buyerKind, .ref qt_buyerCoins, .int it_buyerMany, .ref qt_tryRow, .ref qt_tryLong, .ref qt_tryFree, .int it_tryMany])), (qt_of, .inl (cI, 5, .inl ft_of)), (qt_value, .inl (cI, 10, .inl ft_value)), (qt_w, .inl (cI, 240, .inl ft_w)), (qt_weight, .inl (cI, 10, .inl ft_weight))] [1, 2, 3, 4] (mcC rfl mcN) ((mcC rfl (mcC rfl (mcC rfl (mcC rfl mcN)))).trans (mcC rfl (mcC rfl (mcC rfl (mcC rfl mcN)))).symm) 5 rfl (by decide +kernel) (va_recv hK hP (ci := 8) (q0 := 0) rfl rfl) rfl hl.1 rfl (Nat.le_of_ble_eq_true rfl) ⟨Nat.zero_le _, Nat.zero_le _⟩ dX8_fewest_36 (fun H locs hP hS => ?_)
      refine lv_icmp_ge (tgt := 86) hx hb dX8_fewest_39 (by decide) (fun c3 => ?_) (fun c3 => ?_)
      · replace h := if_t c3 h
        exact K x3 ft_of ft_w (Option.some.inj h) _ _ _ hP hS (lv_sub hl [0, 2, 3] rfl)
      · replace h := if_f c3 h
        refine lv_aload_n hx hb dX8_fewest_42 rfl (lv_at hl 0 rfl) ?_
        refine lv_iload hx hb dX8_fewest_43 (lv_at hl 5 rfl) ?_
        replace h := bd_el h
        obtain ⟨⟨r4, g5⟩, hc6, h⟩ := h
        refine callVI (rest := []) ⟨hx, hb, hml, hown, hts⟩ (ctX8_layRow l D cI cZ cB cS kK kV _ qt qt_w qt_isKept qt_value qt_weight qt_newTube qt_newPrice qt_newLow qt_newHigh qt_newGoods qt_rhythm qt_rhythmLong qt_slug qt_text qt_of qt_buyerColumn qt_buyerKind qt_buyerCoins qt_tryRow qt_tryLong qt_tryFree it_kinds it_columns it_slugs it_newKinds it_newColumns it_newSlugs it_rhythmTold it_textSize it_at it_first it_length it_faultOf it_fault it_buyerMany it_tryMany ft_of x5 N r4 g5 hc6) (cwV 1 hts gX8_fewest_X8_layRow rfl rfl rfl hdX8_layRow ⟨Nat.le_of_ble_eq_true rfl, Nat.le_of_ble_eq_true rfl⟩) hK hN hX hP (dF hD rfl) hS hA [0, 1] (mcC rfl (mcC rfl mcN)) (by decide +kernel) [(qt, .inr (8, [.ref qt_w, .ref qt_isKept, .ref qt_value, .ref qt_weight, .ref qt_newTube, .ref qt_newPrice, .ref qt_newLow, .ref qt_newHigh, .ref qt_newGoods, .ref qt_rhythm, .ref qt_rhythmLong, .ref qt_slug, .int it_kinds, .int it_columns, .int it_slugs, .int it_newKinds, .int it_newColumns, .int it_newSlugs, .int it_rhythmTold, .ref qt_text, .int it_textSize, .int it_at, .int it_first, .int it_length, .int it_faultOf, .int it_fault, .ref qt_of, .ref qt_buyerColumn, .ref qt_buyerKind, .ref qt_buyerCoins, .int it_buyerMany, .ref qt_tryRow, .ref qt_tryLong, .ref qt_tryFree, .int it_tryMany])), (qt_of, .inl (cI, 5, .inl g5)), (qt_value, .inl (cI, 10, .inl ft_value)), (qt_w, .inl (cI, 240, .inl ft_w)), (qt_weight, .inl (cI, 10, .inl ft_weight))] [2, 3, 4] (mcC rfl (mcC rfl mcN)) ((mcC rfl (mcC rfl (mcC rfl mcN))).trans (mcC rfl (mcC rfl (mcC rfl mcN))).symm) 5 rfl (by decide +kernel) (va_recv hK hP (ci := 8) (q0 := 0) rfl rfl) rfl hl.1 rfl (Nat.le_of_ble_eq_true rfl) ⟨Nat.zero_le _, Nat.zero_le _⟩ dX8_fewest_45 (fun H locs hP hS => ?_)
        refine lv_istore (lv' := [(6, .int r4), (0, .ref qt), (1, .int x1), (2, .int x2), (3, .int x3), (4, .int x4), (5, .int x5)]) hx hb dX8_fewest_48 hl (by decide) rfl (fun ls hl => ?_)
        refine lv_iload hx hb dX8_fewest_50 (lv_at hl 0 rfl) ?_
        refine lv_i2l (v := Int32.toInt64 r4) hx hb dX8_fewest_52 rfl ?_
        refine lv_lconst (v := 1) hx hb dX8_fewest_53 (by decide) ?_
        refine lv_iload hx hb dX8_fewest_54 (lv_at hl 5 rfl) ?_
        refine lv_iconst (v := 1) hx hb dX8_fewest_56 (by decide) ?_
        refine lv_isub hx hb dX8_fewest_57 ?_
        refine lv_i2l (v := Int32.toInt64 (x4 - 1)) hx hb dX8_fewest_58 rfl ?_
        replace h := bd_el h
        obtain ⟨r7, hc8, h⟩ := h
        refine callSI (rest := []) ⟨hx, hb, hml, hown, hts⟩ (ctX8_in l D cI cZ cB cS kK kV _ (Int32.toInt64 r4) 1 (Int32.toInt64 (x4 - 1)) N r7 hc8) (va_cwS 3 hts gX8_fewest_X8_in rfl rfl rfl hdX8_in ⟨Nat.le_of_ble_eq_true rfl, Nat.le_of_ble_eq_true rfl⟩) hK hN hX hP (dF hD rfl) hS hA [] mcN (by decide +kernel) [(qt, .inr (8, [.ref qt_w, .ref qt_isKept, .ref qt_value, .ref qt_weight, .ref qt_newTube, .ref qt_newPrice, .ref qt_newLow, .ref qt_newHigh, .ref qt_newGoods, .ref qt_rhythm, .ref qt_rhythmLong, .ref qt_slug, .int it_kinds, .int it_columns, .int it_slugs, .int it_newKinds, .int it_newColumns, .int it_newSlugs, .int it_rhythmTold, .ref qt_text, .int it_textSize, .int it_at, .int it_first, .int it_length, .int it_faultOf, .int it_fault, .ref qt_of, .ref qt_buyerColumn, .ref qt_buyerKind, .ref qt_buyerCoins, .int it_buyerMany, .ref qt_tryRow, .ref qt_tryLong, .ref qt_tryFree, .int it_tryMany])), (qt_of, .inl (cI, 5, .inl g5)), (qt_value, .inl (cI, 10, .inl ft_value)), (qt_w, .inl (cI, 240, .inl ft_w)), (qt_weight, .inl (cI, 10, .inl ft_weight))] [0, 1, 2, 3, 4] mcN ((mcC rfl (mcC rfl (mcC rfl (mcC rfl (mcC rfl mcN))))).trans (mcC rfl (mcC rfl (mcC rfl (mcC rfl (mcC rfl mcN))))).symm) 5 rfl (by decide +kernel) rfl hl.1 rfl (Nat.le_of_ble_eq_true rfl) ⟨Nat.zero_le _, Nat.zero_le _⟩ dX8_fewest_59 (fun H locs hP hS => ?_)
        refine lv_if_eq (tgt := 80) hx hb dX8_fewest_62 (by decide) (fun c9 => ?_) (fun c9 => ?_)
        · replace h := if_t c9 h
          obtain ⟨n10, en10⟩ : ∃ z : Int32, z = x5 + 1 := ⟨_, rfl⟩
          replace h := lt_at en10 h
          refine lv_iinc (v := n10) (lv' := [(5, .int n10), (6, .int r4), (0, .ref qt), (1, .int x1), (2, .int x2), (3, .int x3), (4, .int x4)]) hx hb dX8_fewest_80 hl (k := 6) rfl (by rw [en10]; rfl) (by decide) rfl (fun ls hl => ?_)
          refine lv_goto (tgt := 33) hx hb dX8_fewest_83 (by decide) ?_
          exact ih x1 x2 x3 x4 n10 g5 ft_w _ _ _ o h hP hS (lv_sub hl [2, 3, 4, 5, 6, 0] rfl) K
        · replace h := if_f c9 h
          refine lv_aload_n hx hb dX8_fewest_65 rfl (lv_at hl 1 rfl) ?_
          refine lv_iload_n hx hb dX8_fewest_66 rfl (lv_at hl 2 rfl) ?_
          replace h := bd_el h
          obtain ⟨⟨r11, g12⟩, hc13, h⟩ := h
          refine callVI (rest := []) ⟨hx, hb, hml, hown, hts⟩ (ctX8_gets l D cI cZ cB cS kK kV _ qt qt_w qt_isKept qt_value qt_weight qt_newTube qt_newPrice qt_newLow qt_newHigh qt_newGoods qt_rhythm qt_rhythmLong qt_slug qt_text qt_of qt_buyerColumn qt_buyerKind qt_buyerCoins qt_tryRow qt_tryLong qt_tryFree it_kinds it_columns it_slugs it_newKinds it_newColumns it_newSlugs it_rhythmTold it_textSize it_at it_first it_length it_faultOf it_fault it_buyerMany it_tryMany g5 ft_value ft_w ft_weight x1 N r11 g12 hc13) (cwV 1 hts gX8_fewest_X8_gets rfl rfl rfl hdX8_gets ⟨Nat.le_of_ble_eq_true rfl, Nat.le_of_ble_eq_true rfl⟩) hK hN hX hP (dF hD rfl) hS hA [0, 1, 2, 3, 4] (mcC rfl (mcC rfl (mcC rfl (mcC rfl (mcC rfl mcN))))) (by decide +kernel) [(qt, .inr (8, [.ref qt_w, .ref qt_isKept, .ref qt_value, .ref qt_weight, .ref qt_newTube, .ref qt_newPrice, .ref qt_newLow, .ref qt_newHigh, .ref qt_newGoods, .ref qt_rhythm, .ref qt_rhythmLong, .ref qt_slug, .int it_kinds, .int it_columns, .int it_slugs, .int it_newKinds, .int it_newColumns, .int it_newSlugs, .int it_rhythmTold, .ref qt_text, .int it_textSize, .int it_at, .int it_first, .int it_length, .int it_faultOf, .int it_fault, .ref qt_of, .ref qt_buyerColumn, .ref qt_buyerKind, .ref qt_buyerCoins, .int it_buyerMany, .ref qt_tryRow, .ref qt_tryLong, .ref qt_tryFree, .int it_tryMany])), (qt_of, .inl (cI, 5, .inl g5)), (qt_value, .inl (cI, 10, .inl ft_value)), (qt_w, .inl (cI, 240, .inl g12)), (qt_weight, .inl (cI, 10, .inl ft_weight))] [] (mcC rfl (mcC rfl (mcC rfl (mcC rfl (mcC rfl mcN))))) (mcN.trans mcN.symm) 5 rfl (by decide +kernel) (va_recv hK hP (ci := 8) (q0 := 0) rfl rfl) rfl hl.1 rfl (Nat.le_of_ble_eq_true rfl) ⟨Nat.zero_le _, Nat.zero_le _⟩ dX8_fewest_67 (fun H locs hP hS => ?_)
          refine lv_if_eq (tgt := 80) hx hb dX8_fewest_70 (by decide) (fun c14 => ?_) (fun c14 => ?_)
          · replace h := if_t c14 h
            obtain ⟨n15, en15⟩ : ∃ z : Int32, z = x5 + 1 := ⟨_, rfl⟩
            replace h := lt_at en15 h
            refine lv_iinc (v := n15) (lv' := [(5, .int n15), (6, .int r4), (0, .ref qt), (1, .int x1), (2, .int x2), (3, .int x3), (4, .int x4)]) hx hb dX8_fewest_80 hl (k := 6) rfl (by rw [en15]; rfl) (by decide) rfl (fun ls hl => ?_)
            refine lv_goto (tgt := 33) hx hb dX8_fewest_83 (by decide) ?_
            exact ih x1 x2 x3 x4 n15 g5 g12 _ _ _ o h hP hS (lv_sub hl [2, 3, 4, 5, 6, 0] rfl) K
          · replace h := if_f c14 h
            refine lv_iload hx hb dX8_fewest_73 (lv_at hl 6 rfl) ?_
            refine lv_istore_n (lv' := [(3, .int x5), (6, .int r4), (0, .ref qt), (1, .int x1), (2, .int x2), (4, .int x4), (5, .int x5)]) hx hb dX8_fewest_75 rfl hl (by decide) rfl (fun ls hl => ?_)
            refine lv_iload hx hb dX8_fewest_76 (lv_at hl 1 rfl) ?_
            refine lv_istore (lv' := [(4, .int r4), (3, .int x5), (6, .int r4), (0, .ref qt), (1, .int x1), (2, .int x2), (5, .int x5)]) hx hb dX8_fewest_78 hl (by decide) rfl (fun ls hl => ?_)
            obtain ⟨n16, en16⟩ : ∃ z : Int32, z = x5 + 1 := ⟨_, rfl⟩
            replace h := lt_at en16 h
            refine lv_iinc (v := n16) (lv' := [(5, .int n16), (4, .int r4), (3, .int x5), (6, .int r4), (0, .ref qt), (1, .int x1), (2, .int x2)]) hx hb dX8_fewest_80 hl (k := 6) rfl (by rw [en16]; rfl) (by decide) rfl (fun ls hl => ?_)
            refine lv_goto (tgt := 33) hx hb dX8_fewest_83 (by decide) ?_
            exact ih x1 x2 x5 r4 n16 g5 g12 _ _ _ o h hP hS (lv_sub hl [4, 5, 6, 2, 1, 0] rfl) K
  unfold fX8_fewest at h
  refine lv_aload_n hx hb dX8_fewest_0 rfl (lv_at hl 0 rfl) ?_
  refine lv_iload_n hx hb dX8_fewest_1 rfl (lv_at hl 1 rfl) ?_
  replace h := bd_el h
  obtain ⟨r17, hc18, h⟩ := h
  refine callVI (rest := []) ⟨hx, hb, hml, hown, hts⟩ (ctX8_isColumn l D cI cZ cB cS kK kV _ qt qt_w qt_isKept qt_value qt_weight qt_newTube qt_newPrice qt_newLow qt_newHigh qt_newGoods qt_rhythm qt_rhythmLong qt_slug qt_text qt_of qt_buyerColumn qt_buyerKind qt_buyerCoins qt_tryRow qt_tryLong qt_tryFree it_kinds it_columns it_slugs it_newKinds it_newColumns it_newSlugs it_rhythmTold it_textSize it_at it_first it_length it_faultOf it_fault it_buyerMany it_tryMany x1 N r17 hc18) (cwV 1 hts gX8_fewest_X8_isColumn rfl rfl rfl hdX8_isColumn ⟨Nat.le_of_ble_eq_true rfl, Nat.le_of_ble_eq_true rfl⟩) hK hN hX hP (dF hD rfl) hS hA [0] (mcC rfl mcN) (by decide +kernel) [(qt, .inr (8, [.ref qt_w, .ref qt_isKept, .ref qt_value, .ref qt_weight, .ref qt_newTube, .ref qt_newPrice, .ref qt_newLow, .ref qt_newHigh, .ref qt_newGoods, .ref qt_rhythm, .ref qt_rhythmLong, .ref qt_slug, .int it_kinds, .int it_columns, .int it_slugs, .int it_newKinds, .int it_newColumns, .int it_newSlugs, .int it_rhythmTold, .ref qt_text, .int it_textSize, .int it_at, .int it_first, .int it_length, .int it_faultOf, .int it_fault, .ref qt_of, .ref qt_buyerColumn, .ref qt_buyerKind, .ref qt_buyerCoins, .int it_buyerMany, .ref qt_tryRow, .ref qt_tryLong, .ref qt_tryFree, .int it_tryMany])), (qt_of, .inl (cI, 5, .inl ft_of)), (qt_value, .inl (cI, 10, .inl ft_value)), (qt_w, .inl (cI, 240, .inl ft_w)), (qt_weight, .inl (cI, 10, .inl ft_weight))] [1, 2, 3, 4] (mcC rfl mcN) ((mcC rfl (mcC rfl (mcC rfl (mcC rfl mcN)))).trans (mcC rfl (mcC rfl (mcC rfl (mcC rfl mcN)))).symm) 5 rfl (by decide +kernel) (va_recv hK hP (ci := 8) (q0 := 0) rfl rfl) rfl hl.1 rfl (Nat.le_of_ble_eq_true rfl) ⟨Nat.zero_le _, Nat.zero_le _⟩ dX8_fewest_2 (fun H locs hP hS => ?_)
  refine lv_if_eq (tgt := 21) hx hb dX8_fewest_5 (by decide) (fun c19 => ?_) (fun c19 => ?_)
  · replace h := if_t c19 h
    refine lv_ldc (v := (-1000000001)) hx hb hown cn193 dX8_fewest_21 ?_
    simp only [Option.some.injEq, Prod.mk.injEq] at h
    obtain ⟨rfl, rfl, rfl⟩ := h
    exact hret _ _ _ _ hP hS rfl dX8_fewest_23
  · replace h := if_f c19 h
    refine lv_iload_n hx hb dX8_fewest_8 rfl (lv_at hl 2 rfl) ?_
    refine lv_iconst (v := (-1)) hx hb dX8_fewest_9 (by decide) ?_
    refine lv_icmp_eq (tgt := 24) hx hb dX8_fewest_10 (by decide) (fun c20 => ?_) (fun c20 => ?_)
    · replace h := if_t c20 h
      refine lv_iconst (v := (-1)) hx hb dX8_fewest_24 (by decide) ?_
      refine lv_istore_n (lv' := [(3, .int (-1)), (0, .ref qt), (1, .int x1), (2, .int x2)]) hx hb dX8_fewest_25 rfl hl (by decide) rfl (fun ls hl => ?_)
      refine lv_bipush (v := 9) hx hb dX8_fewest_26 (by decide) ?_
      refine lv_istore (lv' := [(4, .int 9), (3, .int (-1)), (0, .ref qt), (1, .int x1), (2, .int x2)]) hx hb dX8_fewest_28 hl (by decide) rfl (fun ls hl => ?_)
      refine lv_iconst (v := 0) hx hb dX8_fewest_30 (by decide) ?_
      refine lv_istore (lv' := [(5, .int 0), (4, .int 9), (3, .int (-1)), (0, .ref qt), (1, .int x1), (2, .int x2)]) hx hb dX8_fewest_31 hl (by decide) rfl (fun ls hl => ?_)
      replace h := bd_el h
      obtain ⟨o21, ho21, h⟩ := h
      refine lp33 N x1 x2 (-1) 9 0 ft_of ft_w _ _ _ o21 ho21 hP hS (lv_sub hl [3, 4, 5, 2, 1, 0] rfl) (fun n22 g23 g24 eo H locs ls hP hS hl => ?_)
      subst eo
      refine lv_iload_n hx hb dX8_fewest_86 rfl (lv_at hl 2 rfl) ?_
      refine lv_if_ge (tgt := 92) hx hb dX8_fewest_87 (by decide) (fun c25 => ?_) (fun c25 => ?_)
      · replace h := if_t c25 h
        refine lv_aload_n hx hb dX8_fewest_92 rfl (lv_at hl 0 rfl) ?_
        refine lv_iload_n hx hb dX8_fewest_93 rfl (lv_at hl 2 rfl) ?_
        replace h := bd_el h
        obtain ⟨⟨r26, g27⟩, hc28, h⟩ := h
        refine callVI (rest := []) ⟨hx, hb, hml, hown, hts⟩ (ctX8_layRow l D cI cZ cB cS kK kV _ qt qt_w qt_isKept qt_value qt_weight qt_newTube qt_newPrice qt_newLow qt_newHigh qt_newGoods qt_rhythm qt_rhythmLong qt_slug qt_text qt_of qt_buyerColumn qt_buyerKind qt_buyerCoins qt_tryRow qt_tryLong qt_tryFree it_kinds it_columns it_slugs it_newKinds it_newColumns it_newSlugs it_rhythmTold it_textSize it_at it_first it_length it_faultOf it_fault it_buyerMany it_tryMany g23 n22 N r26 g27 hc28) (cwV 1 hts gX8_fewest_X8_layRow rfl rfl rfl hdX8_layRow ⟨Nat.le_of_ble_eq_true rfl, Nat.le_of_ble_eq_true rfl⟩) hK hN hX hP (dF hD rfl) hS hA [0, 1] (mcC rfl (mcC rfl mcN)) (by decide +kernel) [(qt, .inr (8, [.ref qt_w, .ref qt_isKept, .ref qt_value, .ref qt_weight, .ref qt_newTube, .ref qt_newPrice, .ref qt_newLow, .ref qt_newHigh, .ref qt_newGoods, .ref qt_rhythm, .ref qt_rhythmLong, .ref qt_slug, .int it_kinds, .int it_columns, .int it_slugs, .int it_newKinds, .int it_newColumns, .int it_newSlugs, .int it_rhythmTold, .ref qt_text, .int it_textSize, .int it_at, .int it_first, .int it_length, .int it_faultOf, .int it_fault, .ref qt_of, .ref qt_buyerColumn, .ref qt_buyerKind, .ref qt_buyerCoins, .int it_buyerMany, .ref qt_tryRow, .ref qt_tryLong, .ref qt_tryFree, .int it_tryMany])), (qt_of, .inl (cI, 5, .inl g27)), (qt_value, .inl (cI, 10, .inl ft_value)), (qt_w, .inl (cI, 240, .inl g24)), (qt_weight, .inl (cI, 10, .inl ft_weight))] [2, 3, 4] (mcC rfl (mcC rfl mcN)) ((mcC rfl (mcC rfl (mcC rfl mcN))).trans (mcC rfl (mcC rfl (mcC rfl mcN))).symm) 5 rfl (by decide +kernel) (va_recv hK hP (ci := 8) (q0 := 0) rfl rfl) rfl hl.1 rfl (Nat.le_of_ble_eq_true rfl) ⟨Nat.zero_le _, Nat.zero_le _⟩ dX8_fewest_94 (fun H locs hP hS => ?_)
        refine lv_istore (lv' := [(4, .int r26), (0, .ref qt), (2, .int x2), (3, .int n22)]) hx hb dX8_fewest_97 hl (by decide) rfl (fun ls hl => ?_)
        refine lv_iload_n hx hb dX8_fewest_99 rfl (lv_at hl 2 rfl) ?_
        refine lv_if_ge (tgt := 108) hx hb dX8_fewest_100 (by decide) (fun c29 => ?_) (fun c29 => ?_)
        · replace h := if_t c29 h
          refine lv_aload_n hx hb dX8_fewest_108 rfl (lv_at hl 1 rfl) ?_
          refine va_get (ci := 8) (v := .ref qt_of) (C := RX8) (T := TX8) (N := 35) hx hb hts hiX8 hown hK hP 0 rfl rfl 26 (by decide) fl54 (fun _ h9 => h9) rfl dX8_fewest_109 ?_
          refine lv_iload_n hx hb dX8_fewest_112 rfl (lv_at hl 2 rfl) ?_
          replace h := ck_el h
          obtain ⟨hi30, h⟩ := h
          refine va_iald hx hb hK hP 1 0 rfl rfl hi30 dX8_fewest_113 ?_
          refine lv_topi (fun n31 en31 => ?_)
          replace h := lt_at en31 h
          simp only [Option.some.injEq, Prod.mk.injEq] at h
          obtain ⟨rfl, rfl, rfl⟩ := h
          exact hret _ _ _ _ hP hS rfl dX8_fewest_114
        · replace h := if_f c29 h
          refine lv_iload hx hb dX8_fewest_103 (lv_at hl 0 rfl) ?_
          refine lv_goto (tgt := 114) hx hb dX8_fewest_105 (by decide) ?_
          simp only [Option.some.injEq, Prod.mk.injEq] at h
          obtain ⟨rfl, rfl, rfl⟩ := h
          exact hret _ _ _ _ hP hS rfl dX8_fewest_114
      · replace h := if_f c25 h
        refine lv_iconst (v := (-1)) hx hb dX8_fewest_90 (by decide) ?_
        simp only [Option.some.injEq, Prod.mk.injEq] at h
        obtain ⟨rfl, rfl, rfl⟩ := h
        exact hret _ _ _ _ hP hS rfl dX8_fewest_91
    · replace h := if_f c20 h
      refine lv_aload_n hx hb dX8_fewest_13 rfl (lv_at hl 0 rfl) ?_
      refine lv_iload_n hx hb dX8_fewest_14 rfl (lv_at hl 2 rfl) ?_
      replace h := bd_el h
      obtain ⟨r32, hc33, h⟩ := h
      refine callVI (rest := []) ⟨hx, hb, hml, hown, hts⟩ (ctX8_isKind l D cI cZ cB cS kK kV _ qt qt_w qt_isKept qt_value qt_weight qt_newTube qt_newPrice qt_newLow qt_newHigh qt_newGoods qt_rhythm qt_rhythmLong qt_slug qt_text qt_of qt_buyerColumn qt_buyerKind qt_buyerCoins qt_tryRow qt_tryLong qt_tryFree it_kinds it_columns it_slugs it_newKinds it_newColumns it_newSlugs it_rhythmTold it_textSize it_at it_first it_length it_faultOf it_fault it_buyerMany it_tryMany x2 N r32 hc33) (cwV 1 hts gX8_fewest_X8_isKind rfl rfl rfl hdX8_isKind ⟨Nat.le_of_ble_eq_true rfl, Nat.le_of_ble_eq_true rfl⟩) hK hN hX hP (dF hD rfl) hS hA [0] (mcC rfl mcN) (by decide +kernel) [(qt, .inr (8, [.ref qt_w, .ref qt_isKept, .ref qt_value, .ref qt_weight, .ref qt_newTube, .ref qt_newPrice, .ref qt_newLow, .ref qt_newHigh, .ref qt_newGoods, .ref qt_rhythm, .ref qt_rhythmLong, .ref qt_slug, .int it_kinds, .int it_columns, .int it_slugs, .int it_newKinds, .int it_newColumns, .int it_newSlugs, .int it_rhythmTold, .ref qt_text, .int it_textSize, .int it_at, .int it_first, .int it_length, .int it_faultOf, .int it_fault, .ref qt_of, .ref qt_buyerColumn, .ref qt_buyerKind, .ref qt_buyerCoins, .int it_buyerMany, .ref qt_tryRow, .ref qt_tryLong, .ref qt_tryFree, .int it_tryMany])), (qt_of, .inl (cI, 5, .inl ft_of)), (qt_value, .inl (cI, 10, .inl ft_value)), (qt_w, .inl (cI, 240, .inl ft_w)), (qt_weight, .inl (cI, 10, .inl ft_weight))] [1, 2, 3, 4] (mcC rfl mcN) ((mcC rfl (mcC rfl (mcC rfl (mcC rfl mcN)))).trans (mcC rfl (mcC rfl (mcC rfl (mcC rfl mcN)))).symm) 5 rfl (by decide +kernel) (va_recv hK hP (ci := 8) (q0 := 0) rfl rfl) rfl hl.1 rfl (Nat.le_of_ble_eq_true rfl) ⟨Nat.zero_le _, Nat.zero_le _⟩ dX8_fewest_15 (fun H locs hP hS => ?_)
      refine lv_if_ne (tgt := 24) hx hb dX8_fewest_18 (by decide) (fun c34 => ?_) (fun c34 => ?_)
      · replace h := if_f c34 h
        refine lv_iconst (v := (-1)) hx hb dX8_fewest_24 (by decide) ?_
        refine lv_istore_n (lv' := [(3, .int (-1)), (0, .ref qt), (1, .int x1), (2, .int x2)]) hx hb dX8_fewest_25 rfl hl (by decide) rfl (fun ls hl => ?_)
        refine lv_bipush (v := 9) hx hb dX8_fewest_26 (by decide) ?_
        refine lv_istore (lv' := [(4, .int 9), (3, .int (-1)), (0, .ref qt), (1, .int x1), (2, .int x2)]) hx hb dX8_fewest_28 hl (by decide) rfl (fun ls hl => ?_)
        refine lv_iconst (v := 0) hx hb dX8_fewest_30 (by decide) ?_
        refine lv_istore (lv' := [(5, .int 0), (4, .int 9), (3, .int (-1)), (0, .ref qt), (1, .int x1), (2, .int x2)]) hx hb dX8_fewest_31 hl (by decide) rfl (fun ls hl => ?_)
        replace h := bd_el h
        obtain ⟨o35, ho35, h⟩ := h
        refine lp33 N x1 x2 (-1) 9 0 ft_of ft_w _ _ _ o35 ho35 hP hS (lv_sub hl [3, 4, 5, 2, 1, 0] rfl) (fun n36 g37 g38 eo H locs ls hP hS hl => ?_)
        subst eo
        refine lv_iload_n hx hb dX8_fewest_86 rfl (lv_at hl 2 rfl) ?_
        refine lv_if_ge (tgt := 92) hx hb dX8_fewest_87 (by decide) (fun c39 => ?_) (fun c39 => ?_)
        · replace h := if_t c39 h
          refine lv_aload_n hx hb dX8_fewest_92 rfl (lv_at hl 0 rfl) ?_
          refine lv_iload_n hx hb dX8_fewest_93 rfl (lv_at hl 2 rfl) ?_
          replace h := bd_el h
          obtain ⟨⟨r40, g41⟩, hc42, h⟩ := h
          refine callVI (rest := []) ⟨hx, hb, hml, hown, hts⟩ (ctX8_layRow l D cI cZ cB cS kK kV _ qt qt_w qt_isKept qt_value qt_weight qt_newTube qt_newPrice qt_newLow qt_newHigh qt_newGoods qt_rhythm qt_rhythmLong qt_slug qt_text qt_of qt_buyerColumn qt_buyerKind qt_buyerCoins qt_tryRow qt_tryLong qt_tryFree it_kinds it_columns it_slugs it_newKinds it_newColumns it_newSlugs it_rhythmTold it_textSize it_at it_first it_length it_faultOf it_fault it_buyerMany it_tryMany g37 n36 N r40 g41 hc42) (cwV 1 hts gX8_fewest_X8_layRow rfl rfl rfl hdX8_layRow ⟨Nat.le_of_ble_eq_true rfl, Nat.le_of_ble_eq_true rfl⟩) hK hN hX hP (dF hD rfl) hS hA [0, 1] (mcC rfl (mcC rfl mcN)) (by decide +kernel) [(qt, .inr (8, [.ref qt_w, .ref qt_isKept, .ref qt_value, .ref qt_weight, .ref qt_newTube, .ref qt_newPrice, .ref qt_newLow, .ref qt_newHigh, .ref qt_newGoods, .ref qt_rhythm, .ref qt_rhythmLong, .ref qt_slug, .int it_kinds, .int it_columns, .int it_slugs, .int it_newKinds, .int it_newColumns, .int it_newSlugs, .int it_rhythmTold, .ref qt_text, .int it_textSize, .int it_at, .int it_first, .int it_length, .int it_faultOf, .int it_fault, .ref qt_of, .ref qt_buyerColumn, .ref qt_buyerKind, .ref qt_buyerCoins, .int it_buyerMany, .ref qt_tryRow, .ref qt_tryLong, .ref qt_tryFree, .int it_tryMany])), (qt_of, .inl (cI, 5, .inl g41)), (qt_value, .inl (cI, 10, .inl ft_value)), (qt_w, .inl (cI, 240, .inl g38)), (qt_weight, .inl (cI, 10, .inl ft_weight))] [2, 3, 4] (mcC rfl (mcC rfl mcN)) ((mcC rfl (mcC rfl (mcC rfl mcN))).trans (mcC rfl (mcC rfl (mcC rfl mcN))).symm) 5 rfl (by decide +kernel) (va_recv hK hP (ci := 8) (q0 := 0) rfl rfl) rfl hl.1 rfl (Nat.le_of_ble_eq_true rfl) ⟨Nat.zero_le _, Nat.zero_le _⟩ dX8_fewest_94 (fun H locs hP hS => ?_)
          refine lv_istore (lv' := [(4, .int r40), (0, .ref qt), (2, .int x2), (3, .int n36)]) hx hb dX8_fewest_97 hl (by decide) rfl (fun ls hl => ?_)
          refine lv_iload_n hx hb dX8_fewest_99 rfl (lv_at hl 2 rfl) ?_
          refine lv_if_ge (tgt := 108) hx hb dX8_fewest_100 (by decide) (fun c43 => ?_) (fun c43 => ?_)
          · replace h := if_t c43 h
            refine lv_aload_n hx hb dX8_fewest_108 rfl (lv_at hl 1 rfl) ?_
            refine va_get (ci := 8) (v := .ref qt_of) (C := RX8) (T := TX8) (N := 35) hx hb hts hiX8 hown hK hP 0 rfl rfl 26 (by decide) fl54 (fun _ h9 => h9) rfl dX8_fewest_109 ?_
            refine lv_iload_n hx hb dX8_fewest_112 rfl (lv_at hl 2 rfl) ?_
            replace h := ck_el h
            obtain ⟨hi44, h⟩ := h
            refine va_iald hx hb hK hP 1 0 rfl rfl hi44 dX8_fewest_113 ?_
            refine lv_topi (fun n45 en45 => ?_)
            replace h := lt_at en45 h
            simp only [Option.some.injEq, Prod.mk.injEq] at h
            obtain ⟨rfl, rfl, rfl⟩ := h
            exact hret _ _ _ _ hP hS rfl dX8_fewest_114
          · replace h := if_f c43 h
            refine lv_iload hx hb dX8_fewest_103 (lv_at hl 0 rfl) ?_
            refine lv_goto (tgt := 114) hx hb dX8_fewest_105 (by decide) ?_
            simp only [Option.some.injEq, Prod.mk.injEq] at h
            obtain ⟨rfl, rfl, rfl⟩ := h
            exact hret _ _ _ _ hP hS rfl dX8_fewest_114
        · replace h := if_f c39 h
          refine lv_iconst (v := (-1)) hx hb dX8_fewest_90 (by decide) ?_
          simp only [Option.some.injEq, Prod.mk.injEq] at h
          obtain ⟨rfl, rfl, rfl⟩ := h
          exact hret _ _ _ _ hP hS rfl dX8_fewest_91
      · replace h := if_t c34 h
        refine lv_ldc (v := (-1000000001)) hx hb hown cn193 dX8_fewest_21 ?_
        simp only [Option.some.injEq, Prod.mk.injEq] at h
        obtain ⟨rfl, rfl, rfl⟩ := h
        exact hret _ _ _ _ hP hS rfl dX8_fewest_23
theorem hdX8_fewest : yX8_fewest.cls = RX8 ∧ yX8_fewest.cls ≠ "java/lang/invoke/MethodHandle" ∧ yX8_fewest.cls ≠ "java/lang/invoke/VarHandle" ∧ (parseMethodDescriptor yX8_fewest.desc).map (fun d => d.parameters.length) = some 2 := by decide +kernel

noncomputable def fX8_buyer (N : Nat) (it_kinds : Int32) (it_columns : Int32) (it_buyerMany : Int32) (ft_buyerColumn : Nat → Int32) (ft_buyerKind : Nat → Int32) (ft_buyerCoins : Nat → Int32) (x1 : Int32) (x2 : Int32) (x3 : Int32) : Option (Int32 × Int32 × (Nat → Int32) × (Nat → Int32) × (Nat → Int32)) := bd (fX8_isColumn N it_columns x1) fun r1 => (if r1 = 0 then some ((-1000000001), it_buyerMany, ft_buyerColumn, ft_buyerKind, ft_buyerCoins) else bd (fX8_isKind N it_kinds x2) fun r4 => (if r4 = 0 then some ((-1000000001), it_buyerMany, ft_buyerColumn, ft_buyerKind, ft_buyerCoins) else bd (fX8_in N (Int32.toInt64 x3) 1 99) fun r7 => (if r7 = 0 then some ((-1000000002), it_buyerMany, ft_buyerColumn, ft_buyerKind, ft_buyerCoins) else (if it_buyerMany = 8 then some ((-1000000004), it_buyerMany, ft_buyerColumn, ft_buyerKind, ft_buyerCoins) else ck it_buyerMany 8 (lt (it_buyerMany + 1) fun n12 => some (n12, n12, upd ft_buyerColumn (Int32.toNatClampNeg it_buyerMany) x1, upd ft_buyerKind (Int32.toNatClampNeg it_buyerMany) x2, upd ft_buyerCoins (Int32.toNatClampNeg it_buyerMany) x3))))))
set_option maxHeartbeats 4000000 in
set_option maxRecDepth 100000 in
theorem ctX8_buyer (l : Launch) (D : va_G) (cI cZ cB cS : ClassId) (kK kV : Nat → Nat) (sz : Nat) (qt qt_w qt_isKept qt_value qt_weight qt_newTube qt_newPrice qt_newLow qt_newHigh qt_newGoods qt_rhythm qt_rhythmLong qt_slug qt_text qt_of qt_buyerColumn qt_buyerKind qt_buyerCoins qt_tryRow qt_tryLong qt_tryFree : Nat) (it_kinds : Int32) (it_columns : Int32) (it_slugs : Int32) (it_newKinds : Int32) (it_newColumns : Int32) (it_newSlugs : Int32) (it_rhythmTold : Int32) (it_textSize : Int32) (it_at : Int32) (it_first : Int32) (it_length : Int32) (it_faultOf : Int32) (it_fault : Int32) (it_buyerMany : Int32) (it_tryMany : Int32) (ft_buyerColumn : Nat → Int32) (ft_buyerKind : Nat → Int32) (ft_buyerCoins : Nat → Int32) (x1 : Int32) (x2 : Int32) (x3 : Int32) (N : Nat) (r0 : Int32) (w_it_buyerMany : Int32) (w_ft_buyerColumn : Nat → Int32) (w_ft_buyerKind : Nat → Int32) (w_ft_buyerCoins : Nat → Int32) (h : fX8_buyer N it_kinds it_columns it_buyerMany ft_buyerColumn ft_buyerKind ft_buyerCoins x1 x2 x3 = some (r0, w_it_buyerMany, w_ft_buyerColumn, w_ft_buyerKind, w_ft_buyerCoins)) : CtI l yX8_buyer wsX8_buyer { frames := 2, cells := 0, slots := 0, locals := 46 } D (TY cI cZ cB cS) kK kV [.ref qt, .int x1, .int x2, .int x3] [(qt, .inr (8, [.ref qt_w, .ref qt_isKept, .ref qt_value, .ref qt_weight, .ref qt_newTube, .ref qt_newPrice, .ref qt_newLow, .ref qt_newHigh, .ref qt_newGoods, .ref qt_rhythm, .ref qt_rhythmLong, .ref qt_slug, .int it_kinds, .int it_columns, .int it_slugs, .int it_newKinds, .int it_newColumns, .int it_newSlugs, .int it_rhythmTold, .ref qt_text, .int it_textSize, .int it_at, .int it_first, .int it_length, .int it_faultOf, .int it_fault, .ref qt_of, .ref qt_buyerColumn, .ref qt_buyerKind, .ref qt_buyerCoins, .int it_buyerMany, .ref qt_tryRow, .ref qt_tryLong, .ref qt_tryFree, .int it_tryMany])), (qt_buyerColumn, .inl (cI, 8, .inl ft_buyerColumn)), (qt_buyerKind, .inl (cI, 8, .inl ft_buyerKind)), (qt_buyerCoins, .inl (cI, 8, .inl ft_buyerCoins))] [(qt, .inr (8, [.ref qt_w, .ref qt_isKept, .ref qt_value, .ref qt_weight, .ref qt_newTube, .ref qt_newPrice, .ref qt_newLow, .ref qt_newHigh, .ref qt_newGoods, .ref qt_rhythm, .ref qt_rhythmLong, .ref qt_slug, .int it_kinds, .int it_columns, .int it_slugs, .int it_newKinds, .int it_newColumns, .int it_newSlugs, .int it_rhythmTold, .ref qt_text, .int it_textSize, .int it_at, .int it_first, .int it_length, .int it_faultOf, .int it_fault, .ref qt_of, .ref qt_buyerColumn, .ref qt_buyerKind, .ref qt_buyerCoins, .int w_it_buyerMany, .ref qt_tryRow, .ref qt_tryLong, .ref qt_tryFree, .int it_tryMany])), (qt_buyerColumn, .inl (cI, 8, .inl w_ft_buyerColumn)), (qt_buyerKind, .inl (cI, 8, .inl w_ft_buyerKind)), (qt_buyerCoins, .inl (cI, 8, .inl w_ft_buyerCoins))] sz r0 := by
  refine mkI (cc := cX8_buyer) (maxL := 4) (rt := .int) (own := RX8) (by decide) rfl rfl (Nat.le_of_ble_eq_true rfl) ?_
  intro p e s m args below meth c A Z ls hx hb hml hown hts hK hN hX hP hD hA hS hret hl
  have hl : lv_has ls 4 [(0, .ref qt), (1, .int x1), (2, .int x2), (3, .int x3)] := hl
  have cn193 : (Cond.constant RX8 193 (-1000000001)).before args s = true := hts _ (List.mem_of_getElem? (l := wsX8_buyer) (i := 1) rfl)
  have cn222 : (Cond.constantLong RX8 222 (99)).before args s = true := hts _ (List.mem_of_getElem? (l := wsX8_buyer) (i := 2) rfl)
  have fl173 : (Cond.fieldLink RX8 173 "SoupWallModel" "buyerMany" "I").before args s = true := hts _ (List.mem_of_getElem? (l := wsX8_buyer) (i := 4) rfl)
  have hiX8 : ∀ w ∈ wsX80, w ∈ wsX8_buyer := fun w h => List.mem_cons_of_mem _ (List.mem_append_right _ h)
  have fl57 : (Cond.fieldLink RX8 57 "SoupWallModel" "buyerColumn" "[I").before args s = true := hts _ (List.mem_of_getElem? (l := wsX8_buyer) (i := 6) rfl)
  have fl60 : (Cond.fieldLink RX8 60 "SoupWallModel" "buyerKind" "[I").before args s = true := hts _ (List.mem_of_getElem? (l := wsX8_buyer) (i := 7) rfl)
  have fl63 : (Cond.fieldLink RX8 63 "SoupWallModel" "buyerCoins" "[I").before args s = true := hts _ (List.mem_of_getElem? (l := wsX8_buyer) (i := 8) rfl)
  have cn85 : (Cond.constant RX8 85 (-1000000004)).before args s = true := hts _ (List.mem_of_getElem? (l := wsX8_buyer) (i := 5) rfl)
  have cn81 : (Cond.constant RX8 81 (-1000000002)).before args s = true := hts _ (List.mem_of_getElem? (l := wsX8_buyer) (i := 3) rfl)
  unfold fX8_buyer at h
  refine lv_aload_n hx hb dX8_buyer_0 rfl (lv_at hl 0 rfl) ?_
  refine lv_iload_n hx hb dX8_buyer_1 rfl (lv_at hl 1 rfl) ?_
  replace h := bd_el h
  obtain ⟨r1, hc2, h⟩ := h
  refine callVI (rest := []) ⟨hx, hb, hml, hown, hts⟩ (ctX8_isColumn l D cI cZ cB cS kK kV _ qt qt_w qt_isKept qt_value qt_weight qt_newTube qt_newPrice qt_newLow qt_newHigh qt_newGoods qt_rhythm qt_rhythmLong qt_slug qt_text qt_of qt_buyerColumn qt_buyerKind qt_buyerCoins qt_tryRow qt_tryLong qt_tryFree it_kinds it_columns it_slugs it_newKinds it_newColumns it_newSlugs it_rhythmTold it_textSize it_at it_first it_length it_faultOf it_fault it_buyerMany it_tryMany x1 N r1 hc2) (cwV 1 hts gX8_buyer_X8_isColumn rfl rfl rfl hdX8_isColumn ⟨Nat.le_of_ble_eq_true rfl, Nat.le_of_ble_eq_true rfl⟩) hK hN hX hP (dF hD rfl) hS hA [0] (mcC rfl mcN) (by decide +kernel) [(qt, .inr (8, [.ref qt_w, .ref qt_isKept, .ref qt_value, .ref qt_weight, .ref qt_newTube, .ref qt_newPrice, .ref qt_newLow, .ref qt_newHigh, .ref qt_newGoods, .ref qt_rhythm, .ref qt_rhythmLong, .ref qt_slug, .int it_kinds, .int it_columns, .int it_slugs, .int it_newKinds, .int it_newColumns, .int it_newSlugs, .int it_rhythmTold, .ref qt_text, .int it_textSize, .int it_at, .int it_first, .int it_length, .int it_faultOf, .int it_fault, .ref qt_of, .ref qt_buyerColumn, .ref qt_buyerKind, .ref qt_buyerCoins, .int it_buyerMany, .ref qt_tryRow, .ref qt_tryLong, .ref qt_tryFree, .int it_tryMany])), (qt_buyerColumn, .inl (cI, 8, .inl ft_buyerColumn)), (qt_buyerKind, .inl (cI, 8, .inl ft_buyerKind)), (qt_buyerCoins, .inl (cI, 8, .inl ft_buyerCoins))] [1, 2, 3] (mcC rfl mcN) ((mcC rfl (mcC rfl (mcC rfl mcN))).trans (mcC rfl (mcC rfl (mcC rfl mcN))).symm) 4 rfl (by decide +kernel) (va_recv hK hP (ci := 8) (q0 := 0) rfl rfl) rfl hl.1 rfl (Nat.le_of_ble_eq_true rfl) ⟨Nat.zero_le _, Nat.zero_le _⟩ dX8_buyer_2 (fun H locs hP hS => ?_)
  refine lv_if_eq (tgt := 16) hx hb dX8_buyer_5 (by decide) (fun c3 => ?_) (fun c3 => ?_)
  · replace h := if_t c3 h
    refine lv_ldc (v := (-1000000001)) hx hb hown cn193 dX8_buyer_16 ?_
    simp only [Option.some.injEq, Prod.mk.injEq] at h
    obtain ⟨rfl, rfl, rfl, rfl, rfl⟩ := h
    exact hret _ _ _ _ hP hS rfl dX8_buyer_18
  · replace h := if_f c3 h
    refine lv_aload_n hx hb dX8_buyer_8 rfl (lv_at hl 0 rfl) ?_
    refine lv_iload_n hx hb dX8_buyer_9 rfl (lv_at hl 2 rfl) ?_
    replace h := bd_el h
    obtain ⟨r4, hc5, h⟩ := h
    refine callVI (rest := []) ⟨hx, hb, hml, hown, hts⟩ (ctX8_isKind l D cI cZ cB cS kK kV _ qt qt_w qt_isKept qt_value qt_weight qt_newTube qt_newPrice qt_newLow qt_newHigh qt_newGoods qt_rhythm qt_rhythmLong qt_slug qt_text qt_of qt_buyerColumn qt_buyerKind qt_buyerCoins qt_tryRow qt_tryLong qt_tryFree it_kinds it_columns it_slugs it_newKinds it_newColumns it_newSlugs it_rhythmTold it_textSize it_at it_first it_length it_faultOf it_fault it_buyerMany it_tryMany x2 N r4 hc5) (cwV 1 hts gX8_buyer_X8_isKind rfl rfl rfl hdX8_isKind ⟨Nat.le_of_ble_eq_true rfl, Nat.le_of_ble_eq_true rfl⟩) hK hN hX hP (dF hD rfl) hS hA [0] (mcC rfl mcN) (by decide +kernel) [(qt, .inr (8, [.ref qt_w, .ref qt_isKept, .ref qt_value, .ref qt_weight, .ref qt_newTube, .ref qt_newPrice, .ref qt_newLow, .ref qt_newHigh, .ref qt_newGoods, .ref qt_rhythm, .ref qt_rhythmLong, .ref qt_slug, .int it_kinds, .int it_columns, .int it_slugs, .int it_newKinds, .int it_newColumns, .int it_newSlugs, .int it_rhythmTold, .ref qt_text, .int it_textSize, .int it_at, .int it_first, .int it_length, .int it_faultOf, .int it_fault, .ref qt_of, .ref qt_buyerColumn, .ref qt_buyerKind, .ref qt_buyerCoins, .int it_buyerMany, .ref qt_tryRow, .ref qt_tryLong, .ref qt_tryFree, .int it_tryMany])), (qt_buyerColumn, .inl (cI, 8, .inl ft_buyerColumn)), (qt_buyerKind, .inl (cI, 8, .inl ft_buyerKind)), (qt_buyerCoins, .inl (cI, 8, .inl ft_buyerCoins))] [1, 2, 3] (mcC rfl mcN) ((mcC rfl (mcC rfl (mcC rfl mcN))).trans (mcC rfl (mcC rfl (mcC rfl mcN))).symm) 4 rfl (by decide +kernel) (va_recv hK hP (ci := 8) (q0 := 0) rfl rfl) rfl hl.1 rfl (Nat.le_of_ble_eq_true rfl) ⟨Nat.zero_le _, Nat.zero_le _⟩ dX8_buyer_10 (fun H locs hP hS => ?_)
    refine lv_if_ne (tgt := 19) hx hb dX8_buyer_13 (by decide) (fun c6 => ?_) (fun c6 => ?_)
    · replace h := if_f c6 h
      refine lv_iload_n hx hb dX8_buyer_19 rfl (lv_at hl 3 rfl) ?_
      refine lv_i2l (v := Int32.toInt64 x3) hx hb dX8_buyer_20 rfl ?_
      refine lv_lconst (v := 1) hx hb dX8_buyer_21 (by decide) ?_
      refine lv_ldc2 (v := 99) hx hb hown cn222 dX8_buyer_22 ?_
      replace h := bd_el h
      obtain ⟨r7, hc8, h⟩ := h
      refine callSI (rest := []) ⟨hx, hb, hml, hown, hts⟩ (ctX8_in l D cI cZ cB cS kK kV _ (Int32.toInt64 x3) 1 99 N r7 hc8) (va_cwS 3 hts gX8_buyer_X8_in rfl rfl rfl hdX8_in ⟨Nat.le_of_ble_eq_true rfl, Nat.le_of_ble_eq_true rfl⟩) hK hN hX hP (dF hD rfl) hS hA [] mcN (by decide +kernel) [(qt, .inr (8, [.ref qt_w, .ref qt_isKept, .ref qt_value, .ref qt_weight, .ref qt_newTube, .ref qt_newPrice, .ref qt_newLow, .ref qt_newHigh, .ref qt_newGoods, .ref qt_rhythm, .ref qt_rhythmLong, .ref qt_slug, .int it_kinds, .int it_columns, .int it_slugs, .int it_newKinds, .int it_newColumns, .int it_newSlugs, .int it_rhythmTold, .ref qt_text, .int it_textSize, .int it_at, .int it_first, .int it_length, .int it_faultOf, .int it_fault, .ref qt_of, .ref qt_buyerColumn, .ref qt_buyerKind, .ref qt_buyerCoins, .int it_buyerMany, .ref qt_tryRow, .ref qt_tryLong, .ref qt_tryFree, .int it_tryMany])), (qt_buyerColumn, .inl (cI, 8, .inl ft_buyerColumn)), (qt_buyerKind, .inl (cI, 8, .inl ft_buyerKind)), (qt_buyerCoins, .inl (cI, 8, .inl ft_buyerCoins))] [0, 1, 2, 3] mcN ((mcC rfl (mcC rfl (mcC rfl (mcC rfl mcN)))).trans (mcC rfl (mcC rfl (mcC rfl (mcC rfl mcN)))).symm) 4 rfl (by decide +kernel) rfl hl.1 rfl (Nat.le_of_ble_eq_true rfl) ⟨Nat.zero_le _, Nat.zero_le _⟩ dX8_buyer_25 (fun H locs hP hS => ?_)
      refine lv_if_ne (tgt := 34) hx hb dX8_buyer_28 (by decide) (fun c9 => ?_) (fun c9 => ?_)
      · replace h := if_f c9 h
        refine lv_aload_n hx hb dX8_buyer_34 rfl (lv_at hl 0 rfl) ?_
        refine va_get (ci := 8) (v := .int it_buyerMany) (C := RX8) (T := TX8) (N := 35) hx hb hts hiX8 hown hK hP 0 rfl rfl 30 (by decide) fl173 (fun _ h9 => h9) rfl dX8_buyer_35 ?_
        refine lv_bipush (v := 8) hx hb dX8_buyer_38 (by decide) ?_
        refine lv_icmp_ne (tgt := 46) hx hb dX8_buyer_40 (by decide) (fun c10 => ?_) (fun c10 => ?_)
        · replace h := if_f c10 h
          refine lv_aload_n hx hb dX8_buyer_46 rfl (lv_at hl 0 rfl) ?_
          refine va_get (ci := 8) (v := .ref qt_buyerColumn) (C := RX8) (T := TX8) (N := 35) hx hb hts hiX8 hown hK hP 0 rfl rfl 27 (by decide) fl57 (fun _ h9 => h9) rfl dX8_buyer_47 ?_
          refine lv_aload_n hx hb dX8_buyer_50 rfl (lv_at hl 0 rfl) ?_
          refine va_get (ci := 8) (v := .int it_buyerMany) (C := RX8) (T := TX8) (N := 35) hx hb hts hiX8 hown hK hP 0 rfl rfl 30 (by decide) fl173 (fun _ h9 => h9) rfl dX8_buyer_51 ?_
          refine lv_iload_n hx hb dX8_buyer_54 rfl (lv_at hl 1 rfl) ?_
          replace h := ck_el h
          obtain ⟨hi11, h⟩ := h
          refine va_iast hx hb hK hP (dF hD rfl) hS 1 0 rfl rfl hi11 dX8_buyer_55 (fun H locs hP _ hS => ?_)
          replace hP : va_P D vwCl [(qt, .inr (8, [.ref qt_w, .ref qt_isKept, .ref qt_value, .ref qt_weight, .ref qt_newTube, .ref qt_newPrice, .ref qt_newLow, .ref qt_newHigh, .ref qt_newGoods, .ref qt_rhythm, .ref qt_rhythmLong, .ref qt_slug, .int it_kinds, .int it_columns, .int it_slugs, .int it_newKinds, .int it_newColumns, .int it_newSlugs, .int it_rhythmTold, .ref qt_text, .int it_textSize, .int it_at, .int it_first, .int it_length, .int it_faultOf, .int it_fault, .ref qt_of, .ref qt_buyerColumn, .ref qt_buyerKind, .ref qt_buyerCoins, .int it_buyerMany, .ref qt_tryRow, .ref qt_tryLong, .ref qt_tryFree, .int it_tryMany])), (qt_buyerColumn, .inl (cI, 8, .inl (upd ft_buyerColumn (Int32.toNatClampNeg it_buyerMany) x1))), (qt_buyerKind, .inl (cI, 8, .inl ft_buyerKind)), (qt_buyerCoins, .inl (cI, 8, .inl ft_buyerCoins))] H := hP
          refine lv_aload_n hx hb dX8_buyer_56 rfl (lv_at hl 0 rfl) ?_
          refine va_get (ci := 8) (v := .ref qt_buyerKind) (C := RX8) (T := TX8) (N := 35) hx hb hts hiX8 hown hK hP 0 rfl rfl 28 (by decide) fl60 (fun _ h9 => h9) rfl dX8_buyer_57 ?_
          refine lv_aload_n hx hb dX8_buyer_60 rfl (lv_at hl 0 rfl) ?_
          refine va_get (ci := 8) (v := .int it_buyerMany) (C := RX8) (T := TX8) (N := 35) hx hb hts hiX8 hown hK hP 0 rfl rfl 30 (by decide) fl173 (fun _ h9 => h9) rfl dX8_buyer_61 ?_
          refine lv_iload_n hx hb dX8_buyer_64 rfl (lv_at hl 2 rfl) ?_
          refine va_iast hx hb hK hP (dF hD rfl) hS 2 0 rfl rfl hi11 dX8_buyer_65 (fun H locs hP _ hS => ?_)
          replace hP : va_P D vwCl [(qt, .inr (8, [.ref qt_w, .ref qt_isKept, .ref qt_value, .ref qt_weight, .ref qt_newTube, .ref qt_newPrice, .ref qt_newLow, .ref qt_newHigh, .ref qt_newGoods, .ref qt_rhythm, .ref qt_rhythmLong, .ref qt_slug, .int it_kinds, .int it_columns, .int it_slugs, .int it_newKinds, .int it_newColumns, .int it_newSlugs, .int it_rhythmTold, .ref qt_text, .int it_textSize, .int it_at, .int it_first, .int it_length, .int it_faultOf, .int it_fault, .ref qt_of, .ref qt_buyerColumn, .ref qt_buyerKind, .ref qt_buyerCoins, .int it_buyerMany, .ref qt_tryRow, .ref qt_tryLong, .ref qt_tryFree, .int it_tryMany])), (qt_buyerColumn, .inl (cI, 8, .inl (upd ft_buyerColumn (Int32.toNatClampNeg it_buyerMany) x1))), (qt_buyerKind, .inl (cI, 8, .inl (upd ft_buyerKind (Int32.toNatClampNeg it_buyerMany) x2))), (qt_buyerCoins, .inl (cI, 8, .inl ft_buyerCoins))] H := hP
          refine lv_aload_n hx hb dX8_buyer_66 rfl (lv_at hl 0 rfl) ?_
          refine va_get (ci := 8) (v := .ref qt_buyerCoins) (C := RX8) (T := TX8) (N := 35) hx hb hts hiX8 hown hK hP 0 rfl rfl 29 (by decide) fl63 (fun _ h9 => h9) rfl dX8_buyer_67 ?_
          refine lv_aload_n hx hb dX8_buyer_70 rfl (lv_at hl 0 rfl) ?_
          refine va_get (ci := 8) (v := .int it_buyerMany) (C := RX8) (T := TX8) (N := 35) hx hb hts hiX8 hown hK hP 0 rfl rfl 30 (by decide) fl173 (fun _ h9 => h9) rfl dX8_buyer_71 ?_
          refine lv_iload_n hx hb dX8_buyer_74 rfl (lv_at hl 3 rfl) ?_
          refine va_iast hx hb hK hP (dF hD rfl) hS 3 0 rfl rfl hi11 dX8_buyer_75 (fun H locs hP _ hS => ?_)
          replace hP : va_P D vwCl [(qt, .inr (8, [.ref qt_w, .ref qt_isKept, .ref qt_value, .ref qt_weight, .ref qt_newTube, .ref qt_newPrice, .ref qt_newLow, .ref qt_newHigh, .ref qt_newGoods, .ref qt_rhythm, .ref qt_rhythmLong, .ref qt_slug, .int it_kinds, .int it_columns, .int it_slugs, .int it_newKinds, .int it_newColumns, .int it_newSlugs, .int it_rhythmTold, .ref qt_text, .int it_textSize, .int it_at, .int it_first, .int it_length, .int it_faultOf, .int it_fault, .ref qt_of, .ref qt_buyerColumn, .ref qt_buyerKind, .ref qt_buyerCoins, .int it_buyerMany, .ref qt_tryRow, .ref qt_tryLong, .ref qt_tryFree, .int it_tryMany])), (qt_buyerColumn, .inl (cI, 8, .inl (upd ft_buyerColumn (Int32.toNatClampNeg it_buyerMany) x1))), (qt_buyerKind, .inl (cI, 8, .inl (upd ft_buyerKind (Int32.toNatClampNeg it_buyerMany) x2))), (qt_buyerCoins, .inl (cI, 8, .inl (upd ft_buyerCoins (Int32.toNatClampNeg it_buyerMany) x3)))] H := hP
          refine lv_aload_n hx hb dX8_buyer_76 rfl (lv_at hl 0 rfl) ?_
          refine lv_dup hx hb dX8_buyer_77 rfl ?_
          refine va_get (ci := 8) (v := .int it_buyerMany) (C := RX8) (T := TX8) (N := 35) hx hb hts hiX8 hown hK hP 0 rfl rfl 30 (by decide) fl173 (fun _ h9 => h9) rfl dX8_buyer_78 ?_
          refine lv_iconst (v := 1) hx hb dX8_buyer_81 (by decide) ?_
          refine lv_iadd hx hb dX8_buyer_82 ?_
          refine lv_topi (fun n12 en12 => ?_)
          replace h := lt_at en12 h
          refine va_put (ci := 8) (v := .int n12) (ty := .int) (C := RX8) (T := TX8) (N := 35) hx hb hts hiX8 tyX8 tyX8_ok nmX8 hown hK hP (dF hD rfl) hS 0 rfl rfl 30 (by decide) fl173 (fun _ h9 => h9) rfl (by decide +kernel) rfl rfl (Nat.le_of_ble_eq_true rfl) dX8_buyer_83 (fun H locs hP _ hS => ?_)
          replace hP : va_P D vwCl [(qt, .inr (8, [.ref qt_w, .ref qt_isKept, .ref qt_value, .ref qt_weight, .ref qt_newTube, .ref qt_newPrice, .ref qt_newLow, .ref qt_newHigh, .ref qt_newGoods, .ref qt_rhythm, .ref qt_rhythmLong, .ref qt_slug, .int it_kinds, .int it_columns, .int it_slugs, .int it_newKinds, .int it_newColumns, .int it_newSlugs, .int it_rhythmTold, .ref qt_text, .int it_textSize, .int it_at, .int it_first, .int it_length, .int it_faultOf, .int it_fault, .ref qt_of, .ref qt_buyerColumn, .ref qt_buyerKind, .ref qt_buyerCoins, .int n12, .ref qt_tryRow, .ref qt_tryLong, .ref qt_tryFree, .int it_tryMany])), (qt_buyerColumn, .inl (cI, 8, .inl (upd ft_buyerColumn (Int32.toNatClampNeg it_buyerMany) x1))), (qt_buyerKind, .inl (cI, 8, .inl (upd ft_buyerKind (Int32.toNatClampNeg it_buyerMany) x2))), (qt_buyerCoins, .inl (cI, 8, .inl (upd ft_buyerCoins (Int32.toNatClampNeg it_buyerMany) x3)))] H := hP
          refine lv_aload_n hx hb dX8_buyer_86 rfl (lv_at hl 0 rfl) ?_
          refine va_get (ci := 8) (v := .int n12) (C := RX8) (T := TX8) (N := 35) hx hb hts hiX8 hown hK hP 0 rfl rfl 30 (by decide) fl173 (fun _ h9 => h9) rfl dX8_buyer_87 ?_
          simp only [Option.some.injEq, Prod.mk.injEq] at h
          obtain ⟨rfl, rfl, rfl, rfl, rfl⟩ := h
          exact hret _ _ _ _ hP hS rfl dX8_buyer_90
        · replace h := if_t c10 h
          refine lv_ldc (v := (-1000000004)) hx hb hown cn85 dX8_buyer_43 ?_
          simp only [Option.some.injEq, Prod.mk.injEq] at h
          obtain ⟨rfl, rfl, rfl, rfl, rfl⟩ := h
          exact hret _ _ _ _ hP hS rfl dX8_buyer_45
      · replace h := if_t c9 h
        refine lv_ldc (v := (-1000000002)) hx hb hown cn81 dX8_buyer_31 ?_
        simp only [Option.some.injEq, Prod.mk.injEq] at h
        obtain ⟨rfl, rfl, rfl, rfl, rfl⟩ := h
        exact hret _ _ _ _ hP hS rfl dX8_buyer_33
    · replace h := if_t c6 h
      refine lv_ldc (v := (-1000000001)) hx hb hown cn193 dX8_buyer_16 ?_
      simp only [Option.some.injEq, Prod.mk.injEq] at h
      obtain ⟨rfl, rfl, rfl, rfl, rfl⟩ := h
      exact hret _ _ _ _ hP hS rfl dX8_buyer_18
theorem hdX8_buyer : yX8_buyer.cls = RX8 ∧ yX8_buyer.cls ≠ "java/lang/invoke/MethodHandle" ∧ yX8_buyer.cls ≠ "java/lang/invoke/VarHandle" ∧ (parseMethodDescriptor yX8_buyer.desc).map (fun d => d.parameters.length) = some 3 := by decide +kernel

noncomputable def fX8_come_L4 (N : Nat) : Nat → Int32 → Int32 → Int32 → Int32 → Int32 → (Nat → Int32) → (Nat → Int32) → (Nat → Int32) → (Nat → Int32) → (Nat → Int32) → (Nat → Int32) → Option ((Int32 × (Nat → Int32)) ⊕ (Int32 × (Nat → Int32)))
  | 0, _, _, _, _, _, _, _, _, _, _, _ => none
  | k + 1, x1, x2, x3, it_kinds, it_buyerMany, ft_buyerColumn, ft_buyerKind, ft_buyerCoins, ft_w, ft_weight, ft_value => (if it_buyerMany ≤ x3 then some (.inl (x2, ft_w)) else bd (fX8_has N x1 x3) fun r2 => (if r2 = 0 then lt (x3 + 1) fun n5 => fX8_come_L4 N k x1 x2 n5 it_kinds it_buyerMany ft_buyerColumn ft_buyerKind ft_buyerCoins ft_w ft_weight ft_value else ck x3 8 (bd (fX8_canBuy N ft_w ft_weight ft_value 60 (ft_buyerColumn (Int32.toNatClampNeg x3)) (ft_buyerKind (Int32.toNatClampNeg x3)) (ft_buyerCoins (Int32.toNatClampNeg x3))) fun r7 => (if r7 = 0 then some (.inr ((-1), ft_w)) else bd (fX8_sell N it_kinds ft_w ft_value 60 (ft_buyerColumn (Int32.toNatClampNeg x3)) (ft_buyerKind (Int32.toNatClampNeg x3)) (ft_buyerCoins (Int32.toNatClampNeg x3))) fun (r10, g11) => lt (x2 + r10) fun n13 => lt (x3 + 1) fun n14 => fX8_come_L4 N k x1 n13 n14 it_kinds it_buyerMany ft_buyerColumn ft_buyerKind ft_buyerCoins g11 ft_weight ft_value))))
theorem fX8_come_L4_s (N : Nat) (k : Nat) (x1 : Int32) (x2 : Int32) (x3 : Int32) (it_kinds : Int32) (it_buyerMany : Int32) (ft_buyerColumn : Nat → Int32) (ft_buyerKind : Nat → Int32) (ft_buyerCoins : Nat → Int32) (ft_w : Nat → Int32) (ft_weight : Nat → Int32) (ft_value : Nat → Int32) : fX8_come_L4 N (k + 1) x1 x2 x3 it_kinds it_buyerMany ft_buyerColumn ft_buyerKind ft_buyerCoins ft_w ft_weight ft_value = ((if it_buyerMany ≤ x3 then some (.inl (x2, ft_w)) else bd (fX8_has N x1 x3) fun r2 => (if r2 = 0 then lt (x3 + 1) fun n5 => fX8_come_L4 N k x1 x2 n5 it_kinds it_buyerMany ft_buyerColumn ft_buyerKind ft_buyerCoins ft_w ft_weight ft_value else ck x3 8 (bd (fX8_canBuy N ft_w ft_weight ft_value 60 (ft_buyerColumn (Int32.toNatClampNeg x3)) (ft_buyerKind (Int32.toNatClampNeg x3)) (ft_buyerCoins (Int32.toNatClampNeg x3))) fun r7 => (if r7 = 0 then some (.inr ((-1), ft_w)) else bd (fX8_sell N it_kinds ft_w ft_value 60 (ft_buyerColumn (Int32.toNatClampNeg x3)) (ft_buyerKind (Int32.toNatClampNeg x3)) (ft_buyerCoins (Int32.toNatClampNeg x3))) fun (r10, g11) => lt (x2 + r10) fun n13 => lt (x3 + 1) fun n14 => fX8_come_L4 N k x1 n13 n14 it_kinds it_buyerMany ft_buyerColumn ft_buyerKind ft_buyerCoins g11 ft_weight ft_value))))) := rfl
noncomputable def fX8_come (N : Nat) (it_kinds : Int32) (it_buyerMany : Int32) (ft_buyerColumn : Nat → Int32) (ft_buyerKind : Nat → Int32) (ft_buyerCoins : Nat → Int32) (ft_w : Nat → Int32) (ft_weight : Nat → Int32) (ft_value : Nat → Int32) (x1 : Int32) : Option (Int32 × (Nat → Int32)) := bd (fX8_come_L4 N N x1 0 0 it_kinds it_buyerMany ft_buyerColumn ft_buyerKind ft_buyerCoins ft_w ft_weight ft_value) fun o => match o with | .inr rr => some rr | .inl (n16, g17) => some (n16, g17)
set_option maxHeartbeats 4000000 in
set_option maxRecDepth 100000 in
theorem ctX8_come (l : Launch) (D : va_G) (cI cZ cB cS : ClassId) (kK kV : Nat → Nat) (sz : Nat) (qt qt_w qt_isKept qt_value qt_weight qt_newTube qt_newPrice qt_newLow qt_newHigh qt_newGoods qt_rhythm qt_rhythmLong qt_slug qt_text qt_of qt_buyerColumn qt_buyerKind qt_buyerCoins qt_tryRow qt_tryLong qt_tryFree : Nat) (it_kinds : Int32) (it_columns : Int32) (it_slugs : Int32) (it_newKinds : Int32) (it_newColumns : Int32) (it_newSlugs : Int32) (it_rhythmTold : Int32) (it_textSize : Int32) (it_at : Int32) (it_first : Int32) (it_length : Int32) (it_faultOf : Int32) (it_fault : Int32) (it_buyerMany : Int32) (it_tryMany : Int32) (ft_buyerColumn : Nat → Int32) (ft_buyerKind : Nat → Int32) (ft_buyerCoins : Nat → Int32) (ft_w : Nat → Int32) (ft_weight : Nat → Int32) (ft_value : Nat → Int32) (x1 : Int32) (N : Nat) (r0 : Int32) (w_ft_w : Nat → Int32) (h : fX8_come N it_kinds it_buyerMany ft_buyerColumn ft_buyerKind ft_buyerCoins ft_w ft_weight ft_value x1 = some (r0, w_ft_w)) : CtI l yX8_come wsX8_come { frames := 4, cells := 0, slots := 0, locals := 96 } D (TY cI cZ cB cS) kK kV [.ref qt, .int x1] [(qt, .inr (8, [.ref qt_w, .ref qt_isKept, .ref qt_value, .ref qt_weight, .ref qt_newTube, .ref qt_newPrice, .ref qt_newLow, .ref qt_newHigh, .ref qt_newGoods, .ref qt_rhythm, .ref qt_rhythmLong, .ref qt_slug, .int it_kinds, .int it_columns, .int it_slugs, .int it_newKinds, .int it_newColumns, .int it_newSlugs, .int it_rhythmTold, .ref qt_text, .int it_textSize, .int it_at, .int it_first, .int it_length, .int it_faultOf, .int it_fault, .ref qt_of, .ref qt_buyerColumn, .ref qt_buyerKind, .ref qt_buyerCoins, .int it_buyerMany, .ref qt_tryRow, .ref qt_tryLong, .ref qt_tryFree, .int it_tryMany])), (qt_buyerColumn, .inl (cI, 8, .inl ft_buyerColumn)), (qt_buyerKind, .inl (cI, 8, .inl ft_buyerKind)), (qt_buyerCoins, .inl (cI, 8, .inl ft_buyerCoins)), (qt_w, .inl (cI, 240, .inl ft_w)), (qt_weight, .inl (cI, 10, .inl ft_weight)), (qt_value, .inl (cI, 10, .inl ft_value))] [(qt, .inr (8, [.ref qt_w, .ref qt_isKept, .ref qt_value, .ref qt_weight, .ref qt_newTube, .ref qt_newPrice, .ref qt_newLow, .ref qt_newHigh, .ref qt_newGoods, .ref qt_rhythm, .ref qt_rhythmLong, .ref qt_slug, .int it_kinds, .int it_columns, .int it_slugs, .int it_newKinds, .int it_newColumns, .int it_newSlugs, .int it_rhythmTold, .ref qt_text, .int it_textSize, .int it_at, .int it_first, .int it_length, .int it_faultOf, .int it_fault, .ref qt_of, .ref qt_buyerColumn, .ref qt_buyerKind, .ref qt_buyerCoins, .int it_buyerMany, .ref qt_tryRow, .ref qt_tryLong, .ref qt_tryFree, .int it_tryMany])), (qt_buyerColumn, .inl (cI, 8, .inl ft_buyerColumn)), (qt_buyerKind, .inl (cI, 8, .inl ft_buyerKind)), (qt_buyerCoins, .inl (cI, 8, .inl ft_buyerCoins)), (qt_w, .inl (cI, 240, .inl w_ft_w)), (qt_weight, .inl (cI, 10, .inl ft_weight)), (qt_value, .inl (cI, 10, .inl ft_value))] sz r0 := by
  refine mkI (cc := cX8_come) (maxL := 4) (rt := .int) (own := RX8) (by decide) rfl rfl (Nat.le_of_ble_eq_true rfl) ?_
  intro p e s m args below meth c A Z ls hx hb hml hown hts hK hN hX hP hD hA hS hret hl
  have hl : lv_has ls 4 [(0, .ref qt), (1, .int x1)] := hl
  have fl173 : (Cond.fieldLink RX8 173 "SoupWallModel" "buyerMany" "I").before args s = true := hts _ (List.mem_of_getElem? (l := wsX8_come) (i := 1) rfl)
  have hiX8 : ∀ w ∈ wsX80, w ∈ wsX8_come := fun w h => List.mem_cons_of_mem _ (List.mem_append_right _ h)
  have fl57 : (Cond.fieldLink RX8 57 "SoupWallModel" "buyerColumn" "[I").before args s = true := hts _ (List.mem_of_getElem? (l := wsX8_come) (i := 2) rfl)
  have fl60 : (Cond.fieldLink RX8 60 "SoupWallModel" "buyerKind" "[I").before args s = true := hts _ (List.mem_of_getElem? (l := wsX8_come) (i := 3) rfl)
  have fl63 : (Cond.fieldLink RX8 63 "SoupWallModel" "buyerCoins" "[I").before args s = true := hts _ (List.mem_of_getElem? (l := wsX8_come) (i := 4) rfl)
  have lp4 : ∀ (k : Nat) (x1 : Int32) (x2 : Int32) (x3 : Int32) (ft_w : Nat → Int32) (H : Heap) (locs : List Loc) (ls : Array Slot) (o : (Int32 × (Nat → Int32)) ⊕ (Int32 × (Nat → Int32))), fX8_come_L4 N k x1 x2 x3 it_kinds it_buyerMany ft_buyerColumn ft_buyerKind ft_buyerCoins ft_w ft_weight ft_value = some o → va_P D vwCl [(qt, .inr (8, [.ref qt_w, .ref qt_isKept, .ref qt_value, .ref qt_weight, .ref qt_newTube, .ref qt_newPrice, .ref qt_newLow, .ref qt_newHigh, .ref qt_newGoods, .ref qt_rhythm, .ref qt_rhythmLong, .ref qt_slug, .int it_kinds, .int it_columns, .int it_slugs, .int it_newKinds, .int it_newColumns, .int it_newSlugs, .int it_rhythmTold, .ref qt_text, .int it_textSize, .int it_at, .int it_first, .int it_length, .int it_faultOf, .int it_fault, .ref qt_of, .ref qt_buyerColumn, .ref qt_buyerKind, .ref qt_buyerCoins, .int it_buyerMany, .ref qt_tryRow, .ref qt_tryLong, .ref qt_tryFree, .int it_tryMany])), (qt_buyerColumn, .inl (cI, 8, .inl ft_buyerColumn)), (qt_buyerKind, .inl (cI, 8, .inl ft_buyerKind)), (qt_buyerCoins, .inl (cI, 8, .inl ft_buyerCoins)), (qt_w, .inl (cI, 240, .inl ft_w)), (qt_weight, .inl (cI, 10, .inl ft_weight)), (qt_value, .inl (cI, 10, .inl ft_value))] H → va_S A s.heap H locs → lv_has ls 4 [(0, .ref qt), (1, .int x1), (2, .int x2), (3, .int x3)] → (∀ rr, .inr rr = o → rr = (r0, w_ft_w)) → (∀ (e2 : Int32) (e_ft_w : Nat → Int32), .inl (e2, e_ft_w) = o → ∀ (H : Heap) (locs : List Loc) (ls : Array Slot), va_P D vwCl [(qt, .inr (8, [.ref qt_w, .ref qt_isKept, .ref qt_value, .ref qt_weight, .ref qt_newTube, .ref qt_newPrice, .ref qt_newLow, .ref qt_newHigh, .ref qt_newGoods, .ref qt_rhythm, .ref qt_rhythmLong, .ref qt_slug, .int it_kinds, .int it_columns, .int it_slugs, .int it_newKinds, .int it_newColumns, .int it_newSlugs, .int it_rhythmTold, .ref qt_text, .int it_textSize, .int it_at, .int it_first, .int it_length, .int it_faultOf, .int it_fault, .ref qt_of, .ref qt_buyerColumn, .ref qt_buyerKind, .ref qt_buyerCoins, .int it_buyerMany, .ref qt_tryRow, .ref qt_tryLong, .ref qt_tryFree, .int it_tryMany])), (qt_buyerColumn, .inl (cI, 8, .inl ft_buyerColumn)), (qt_buyerKind, .inl (cI, 8, .inl ft_buyerKind)), (qt_buyerCoins, .inl (cI, 8, .inl ft_buyerCoins)), (qt_w, .inl (cI, 240, .inl e_ft_w)), (qt_weight, .inl (cI, 10, .inl ft_weight)), (qt_value, .inl (cI, 10, .inl ft_value))] H → va_S A s.heap H locs → lv_has ls 4 [(2, .int e2)] → W p l e ({ frames := 4, cells := 0, slots := 0, locals := 96 } : Room) s m args below meth c H locs 0 0 Z (F0 m 82 ls [])) → W p l e ({ frames := 4, cells := 0, slots := 0, locals := 96 } : Room) s m args below meth c H locs 0 0 Z (F0 m 4 ls []) := by
    intro k
    induction k with
    | zero =>
      intro x1 x2 x3 ft_w H locs ls o h
      exact nomatch (show (none : Option ((Int32 × (Nat → Int32)) ⊕ (Int32 × (Nat → Int32)))) = some o from h)
    | succ k ih =>
      intro x1 x2 x3 ft_w H locs ls o h hP hS hl KR K
      rw [fX8_come_L4_s] at h
      refine lv_iload_n hx hb dX8_come_4 rfl (lv_at hl 3 rfl) ?_
      refine lv_aload_n hx hb dX8_come_5 rfl (lv_at hl 0 rfl) ?_
      refine va_get (ci := 8) (v := .int it_buyerMany) (C := RX8) (T := TX8) (N := 35) hx hb hts hiX8 hown hK hP 0 rfl rfl 30 (by decide) fl173 (fun _ h9 => h9) rfl dX8_come_6 ?_
      refine lv_icmp_ge (tgt := 82) hx hb dX8_come_9 (by decide) (fun c1 => ?_) (fun c1 => ?_)
      · replace h := if_t c1 h
        exact K x2 ft_w (Option.some.inj h) _ _ _ hP hS (lv_sub hl [2] rfl)
      · replace h := if_f c1 h
        refine lv_iload_n hx hb dX8_come_12 rfl (lv_at hl 1 rfl) ?_
        refine lv_iload_n hx hb dX8_come_13 rfl (lv_at hl 3 rfl) ?_
        replace h := bd_el h
        obtain ⟨r2, hc3, h⟩ := h
        refine callSI (rest := []) ⟨hx, hb, hml, hown, hts⟩ (ctX8_has l D cI cZ cB cS kK kV _ x1 x3 N r2 hc3) (va_cwS 2 hts gX8_come_X8_has rfl rfl rfl hdX8_has ⟨Nat.le_of_ble_eq_true rfl, Nat.le_of_ble_eq_true rfl⟩) hK hN hX hP (dF hD rfl) hS hA [] mcN (by decide +kernel) [(qt, .inr (8, [.ref qt_w, .ref qt_isKept, .ref qt_value, .ref qt_weight, .ref qt_newTube, .ref qt_newPrice, .ref qt_newLow, .ref qt_newHigh, .ref qt_newGoods, .ref qt_rhythm, .ref qt_rhythmLong, .ref qt_slug, .int it_kinds, .int it_columns, .int it_slugs, .int it_newKinds, .int it_newColumns, .int it_newSlugs, .int it_rhythmTold, .ref qt_text, .int it_textSize, .int it_at, .int it_first, .int it_length, .int it_faultOf, .int it_fault, .ref qt_of, .ref qt_buyerColumn, .ref qt_buyerKind, .ref qt_buyerCoins, .int it_buyerMany, .ref qt_tryRow, .ref qt_tryLong, .ref qt_tryFree, .int it_tryMany])), (qt_buyerColumn, .inl (cI, 8, .inl ft_buyerColumn)), (qt_buyerKind, .inl (cI, 8, .inl ft_buyerKind)), (qt_buyerCoins, .inl (cI, 8, .inl ft_buyerCoins)), (qt_w, .inl (cI, 240, .inl ft_w)), (qt_weight, .inl (cI, 10, .inl ft_weight)), (qt_value, .inl (cI, 10, .inl ft_value))] [0, 1, 2, 3, 4, 5, 6] mcN ((mcC rfl (mcC rfl (mcC rfl (mcC rfl (mcC rfl (mcC rfl (mcC rfl mcN))))))).trans (mcC rfl (mcC rfl (mcC rfl (mcC rfl (mcC rfl (mcC rfl (mcC rfl mcN))))))).symm) 7 rfl (by decide +kernel) rfl hl.1 rfl (Nat.le_of_ble_eq_true rfl) ⟨Nat.zero_le _, Nat.zero_le _⟩ dX8_come_14 (fun H locs hP hS => ?_)
        refine lv_if_eq (tgt := 76) hx hb dX8_come_17 (by decide) (fun c4 => ?_) (fun c4 => ?_)
        · replace h := if_t c4 h
          obtain ⟨n5, en5⟩ : ∃ z : Int32, z = x3 + 1 := ⟨_, rfl⟩
          replace h := lt_at en5 h
          refine lv_iinc (v := n5) (lv' := [(3, .int n5), (0, .ref qt), (1, .int x1), (2, .int x2)]) hx hb dX8_come_76 hl (k := 3) rfl (by rw [en5]; rfl) (by decide) rfl (fun ls hl => ?_)
          refine lv_goto (tgt := 4) hx hb dX8_come_79 (by decide) ?_
          exact ih x1 x2 n5 ft_w _ _ _ o h hP hS (lv_sub hl [1, 2, 3, 0] rfl) KR K
        · replace h := if_f c4 h
          refine lv_aload_n hx hb dX8_come_20 rfl (lv_at hl 0 rfl) ?_
          refine lv_bipush (v := 60) hx hb dX8_come_21 (by decide) ?_
          refine lv_aload_n hx hb dX8_come_23 rfl (lv_at hl 0 rfl) ?_
          refine va_get (ci := 8) (v := .ref qt_buyerColumn) (C := RX8) (T := TX8) (N := 35) hx hb hts hiX8 hown hK hP 0 rfl rfl 27 (by decide) fl57 (fun _ h9 => h9) rfl dX8_come_24 ?_
          refine lv_iload_n hx hb dX8_come_27 rfl (lv_at hl 3 rfl) ?_
          replace h := ck_el h
          obtain ⟨hi6, h⟩ := h
          refine va_iald hx hb hK hP 1 0 rfl rfl hi6 dX8_come_28 ?_
          refine lv_aload_n hx hb dX8_come_29 rfl (lv_at hl 0 rfl) ?_
          refine va_get (ci := 8) (v := .ref qt_buyerKind) (C := RX8) (T := TX8) (N := 35) hx hb hts hiX8 hown hK hP 0 rfl rfl 28 (by decide) fl60 (fun _ h9 => h9) rfl dX8_come_30 ?_
          refine lv_iload_n hx hb dX8_come_33 rfl (lv_at hl 3 rfl) ?_
          refine va_iald hx hb hK hP 2 0 rfl rfl hi6 dX8_come_34 ?_
          refine lv_aload_n hx hb dX8_come_35 rfl (lv_at hl 0 rfl) ?_
          refine va_get (ci := 8) (v := .ref qt_buyerCoins) (C := RX8) (T := TX8) (N := 35) hx hb hts hiX8 hown hK hP 0 rfl rfl 29 (by decide) fl63 (fun _ h9 => h9) rfl dX8_come_36 ?_
          refine lv_iload_n hx hb dX8_come_39 rfl (lv_at hl 3 rfl) ?_
          refine va_iald hx hb hK hP 3 0 rfl rfl hi6 dX8_come_40 ?_
          replace h := bd_el h
          obtain ⟨r7, hc8, h⟩ := h
          refine callVI (rest := []) ⟨hx, hb, hml, hown, hts⟩ (ctX8_canBuy l D cI cZ cB cS kK kV _ qt qt_w qt_isKept qt_value qt_weight qt_newTube qt_newPrice qt_newLow qt_newHigh qt_newGoods qt_rhythm qt_rhythmLong qt_slug qt_text qt_of qt_buyerColumn qt_buyerKind qt_buyerCoins qt_tryRow qt_tryLong qt_tryFree it_kinds it_columns it_slugs it_newKinds it_newColumns it_newSlugs it_rhythmTold it_textSize it_at it_first it_length it_faultOf it_fault it_buyerMany it_tryMany ft_w ft_weight ft_value 60 (ft_buyerColumn (Int32.toNatClampNeg x3)) (ft_buyerKind (Int32.toNatClampNeg x3)) (ft_buyerCoins (Int32.toNatClampNeg x3)) N r7 hc8) (cwV 4 hts gX8_come_X8_canBuy rfl rfl rfl hdX8_canBuy ⟨Nat.le_of_ble_eq_true rfl, Nat.le_of_ble_eq_true rfl⟩) hK hN hX hP (dF hD rfl) hS hA [0, 4, 5, 6] (mcC rfl (mcC rfl (mcC rfl (mcC rfl mcN)))) (by decide +kernel) [(qt, .inr (8, [.ref qt_w, .ref qt_isKept, .ref qt_value, .ref qt_weight, .ref qt_newTube, .ref qt_newPrice, .ref qt_newLow, .ref qt_newHigh, .ref qt_newGoods, .ref qt_rhythm, .ref qt_rhythmLong, .ref qt_slug, .int it_kinds, .int it_columns, .int it_slugs, .int it_newKinds, .int it_newColumns, .int it_newSlugs, .int it_rhythmTold, .ref qt_text, .int it_textSize, .int it_at, .int it_first, .int it_length, .int it_faultOf, .int it_fault, .ref qt_of, .ref qt_buyerColumn, .ref qt_buyerKind, .ref qt_buyerCoins, .int it_buyerMany, .ref qt_tryRow, .ref qt_tryLong, .ref qt_tryFree, .int it_tryMany])), (qt_buyerColumn, .inl (cI, 8, .inl ft_buyerColumn)), (qt_buyerKind, .inl (cI, 8, .inl ft_buyerKind)), (qt_buyerCoins, .inl (cI, 8, .inl ft_buyerCoins)), (qt_w, .inl (cI, 240, .inl ft_w)), (qt_weight, .inl (cI, 10, .inl ft_weight)), (qt_value, .inl (cI, 10, .inl ft_value))] [1, 2, 3] (mcC rfl (mcC rfl (mcC rfl (mcC rfl mcN)))) ((mcC rfl (mcC rfl (mcC rfl mcN))).trans (mcC rfl (mcC rfl (mcC rfl mcN))).symm) 7 rfl (by decide +kernel) (va_recv hK hP (ci := 8) (q0 := 0) rfl rfl) rfl hl.1 rfl (Nat.le_of_ble_eq_true rfl) ⟨Nat.zero_le _, Nat.zero_le _⟩ dX8_come_41 (fun H locs hP hS => ?_)
          refine lv_if_ne (tgt := 49) hx hb dX8_come_44 (by decide) (fun c9 => ?_) (fun c9 => ?_)
          · replace h := if_f c9 h
            refine lv_iload_n hx hb dX8_come_49 rfl (lv_at hl 2 rfl) ?_
            refine lv_aload_n hx hb dX8_come_50 rfl (lv_at hl 0 rfl) ?_
            refine lv_bipush (v := 60) hx hb dX8_come_51 (by decide) ?_
            refine lv_aload_n hx hb dX8_come_53 rfl (lv_at hl 0 rfl) ?_
            refine va_get (ci := 8) (v := .ref qt_buyerColumn) (C := RX8) (T := TX8) (N := 35) hx hb hts hiX8 hown hK hP 0 rfl rfl 27 (by decide) fl57 (fun _ h9 => h9) rfl dX8_come_54 ?_
            refine lv_iload_n hx hb dX8_come_57 rfl (lv_at hl 3 rfl) ?_
            refine va_iald hx hb hK hP 1 0 rfl rfl hi6 dX8_come_58 ?_
            refine lv_aload_n hx hb dX8_come_59 rfl (lv_at hl 0 rfl) ?_
            refine va_get (ci := 8) (v := .ref qt_buyerKind) (C := RX8) (T := TX8) (N := 35) hx hb hts hiX8 hown hK hP 0 rfl rfl 28 (by decide) fl60 (fun _ h9 => h9) rfl dX8_come_60 ?_
            refine lv_iload_n hx hb dX8_come_63 rfl (lv_at hl 3 rfl) ?_
            refine va_iald hx hb hK hP 2 0 rfl rfl hi6 dX8_come_64 ?_
            refine lv_aload_n hx hb dX8_come_65 rfl (lv_at hl 0 rfl) ?_
            refine va_get (ci := 8) (v := .ref qt_buyerCoins) (C := RX8) (T := TX8) (N := 35) hx hb hts hiX8 hown hK hP 0 rfl rfl 29 (by decide) fl63 (fun _ h9 => h9) rfl dX8_come_66 ?_
            refine lv_iload_n hx hb dX8_come_69 rfl (lv_at hl 3 rfl) ?_
            refine va_iald hx hb hK hP 3 0 rfl rfl hi6 dX8_come_70 ?_
            replace h := bd_el h
            obtain ⟨⟨r10, g11⟩, hc12, h⟩ := h
            refine callVI (rest := [.int x2]) ⟨hx, hb, hml, hown, hts⟩ (ctX8_sell l D cI cZ cB cS kK kV _ qt qt_w qt_isKept qt_value qt_weight qt_newTube qt_newPrice qt_newLow qt_newHigh qt_newGoods qt_rhythm qt_rhythmLong qt_slug qt_text qt_of qt_buyerColumn qt_buyerKind qt_buyerCoins qt_tryRow qt_tryLong qt_tryFree it_kinds it_columns it_slugs it_newKinds it_newColumns it_newSlugs it_rhythmTold it_textSize it_at it_first it_length it_faultOf it_fault it_buyerMany it_tryMany ft_w ft_value 60 (ft_buyerColumn (Int32.toNatClampNeg x3)) (ft_buyerKind (Int32.toNatClampNeg x3)) (ft_buyerCoins (Int32.toNatClampNeg x3)) N r10 g11 hc12) (cwV 4 hts gX8_come_X8_sell rfl rfl rfl hdX8_sell ⟨Nat.le_of_ble_eq_true rfl, Nat.le_of_ble_eq_true rfl⟩) hK hN hX hP (dF hD rfl) hS hA [0, 4, 6] (mcC rfl (mcC rfl (mcC rfl mcN))) (by decide +kernel) [(qt, .inr (8, [.ref qt_w, .ref qt_isKept, .ref qt_value, .ref qt_weight, .ref qt_newTube, .ref qt_newPrice, .ref qt_newLow, .ref qt_newHigh, .ref qt_newGoods, .ref qt_rhythm, .ref qt_rhythmLong, .ref qt_slug, .int it_kinds, .int it_columns, .int it_slugs, .int it_newKinds, .int it_newColumns, .int it_newSlugs, .int it_rhythmTold, .ref qt_text, .int it_textSize, .int it_at, .int it_first, .int it_length, .int it_faultOf, .int it_fault, .ref qt_of, .ref qt_buyerColumn, .ref qt_buyerKind, .ref qt_buyerCoins, .int it_buyerMany, .ref qt_tryRow, .ref qt_tryLong, .ref qt_tryFree, .int it_tryMany])), (qt_buyerColumn, .inl (cI, 8, .inl ft_buyerColumn)), (qt_buyerKind, .inl (cI, 8, .inl ft_buyerKind)), (qt_buyerCoins, .inl (cI, 8, .inl ft_buyerCoins)), (qt_w, .inl (cI, 240, .inl g11)), (qt_weight, .inl (cI, 10, .inl ft_weight)), (qt_value, .inl (cI, 10, .inl ft_value))] [1, 2, 3, 5] (mcC rfl (mcC rfl (mcC rfl mcN))) ((mcC rfl (mcC rfl (mcC rfl (mcC rfl mcN)))).trans (mcC rfl (mcC rfl (mcC rfl (mcC rfl mcN)))).symm) 7 rfl (by decide +kernel) (va_recv hK hP (ci := 8) (q0 := 0) rfl rfl) rfl hl.1 rfl (Nat.le_of_ble_eq_true rfl) ⟨Nat.zero_le _, Nat.zero_le _⟩ dX8_come_71 (fun H locs hP hS => ?_)
            refine lv_iadd hx hb dX8_come_74 ?_
            refine lv_topi (fun n13 en13 => ?_)
            replace h := lt_at en13 h
            refine lv_istore_n (lv' := [(2, .int n13), (0, .ref qt), (1, .int x1), (3, .int x3)]) hx hb dX8_come_75 rfl hl (by decide) rfl (fun ls hl => ?_)
            obtain ⟨n14, en14⟩ : ∃ z : Int32, z = x3 + 1 := ⟨_, rfl⟩
            replace h := lt_at en14 h
            refine lv_iinc (v := n14) (lv' := [(3, .int n14), (2, .int n13), (0, .ref qt), (1, .int x1)]) hx hb dX8_come_76 hl (k := 3) rfl (by rw [en14]; rfl) (by decide) rfl (fun ls hl => ?_)
            refine lv_goto (tgt := 4) hx hb dX8_come_79 (by decide) ?_
            exact ih x1 n13 n14 g11 _ _ _ o h hP hS (lv_sub hl [2, 3, 1, 0] rfl) KR K
          · replace h := if_t c9 h
            refine lv_iconst (v := (-1)) hx hb dX8_come_47 (by decide) ?_
            have hz9 := KR _ (Option.some.inj h)
            simp only [Prod.mk.injEq] at hz9
            obtain ⟨rfl, rfl⟩ := hz9
            exact hret _ _ _ _ hP hS rfl dX8_come_48
  unfold fX8_come at h
  refine lv_iconst (v := 0) hx hb dX8_come_0 (by decide) ?_
  refine lv_istore_n (lv' := [(2, .int 0), (0, .ref qt), (1, .int x1)]) hx hb dX8_come_1 rfl hl (by decide) rfl (fun ls hl => ?_)
  refine lv_iconst (v := 0) hx hb dX8_come_2 (by decide) ?_
  refine lv_istore_n (lv' := [(3, .int 0), (2, .int 0), (0, .ref qt), (1, .int x1)]) hx hb dX8_come_3 rfl hl (by decide) rfl (fun ls hl => ?_)
  replace h := bd_el h
  obtain ⟨o15, ho15, h⟩ := h
  refine lp4 N x1 0 0 ft_w _ _ _ o15 ho15 hP hS (lv_sub hl [2, 3, 1, 0] rfl) (fun rr er => by subst er; exact Option.some.inj h) (fun n16 g17 eo H locs ls hP hS hl => ?_)
  subst eo
  dsimp only at h
  refine lv_iload_n hx hb dX8_come_82 rfl (lv_at hl 0 rfl) ?_
  simp only [Option.some.injEq, Prod.mk.injEq] at h
  obtain ⟨rfl, rfl⟩ := h
  exact hret _ _ _ _ hP hS rfl dX8_come_83
theorem hdX8_come : yX8_come.cls = RX8 ∧ yX8_come.cls ≠ "java/lang/invoke/MethodHandle" ∧ yX8_come.cls ≠ "java/lang/invoke/VarHandle" ∧ (parseMethodDescriptor yX8_come.desc).map (fun d => d.parameters.length) = some 1 := by decide +kernel

noncomputable def fX8_serves_L9 (N : Nat) : Nat → Int32 → Int32 → (Nat → Int32) → (Nat → Int32) → Option ((Nat → Int32) ⊕ (Int32 × (Nat → Int32)))
  | 0, _, _, _, _ => none
  | k + 1, x1, it_kinds, ft_w, ft_of => (if it_kinds ≤ x1 then some (.inl ft_w) else ck (60 + x1) 240 (ck x1 5 (lt ((ft_w (Int32.toNatClampNeg (60 + x1))) + (ft_of (Int32.toNatClampNeg x1))) fun n4 => (if (ft_of (Int32.toNatClampNeg x1)) ≤ 0 then lt (x1 + 1) fun n6 => fX8_serves_L9 N k n6 it_kinds (upd ft_w (Int32.toNatClampNeg (60 + x1)) n4) ft_of else (if ((upd ft_w (Int32.toNatClampNeg (60 + x1)) n4) (Int32.toNatClampNeg (60 + x1))) ≤ 60 then lt (x1 + 1) fun n8 => fX8_serves_L9 N k n8 it_kinds (upd ft_w (Int32.toNatClampNeg (60 + x1)) n4) ft_of else some (.inr (0, upd ft_w (Int32.toNatClampNeg (60 + x1)) n4)))))))
theorem fX8_serves_L9_s (N : Nat) (k : Nat) (x1 : Int32) (it_kinds : Int32) (ft_w : Nat → Int32) (ft_of : Nat → Int32) : fX8_serves_L9 N (k + 1) x1 it_kinds ft_w ft_of = ((if it_kinds ≤ x1 then some (.inl ft_w) else ck (60 + x1) 240 (ck x1 5 (lt ((ft_w (Int32.toNatClampNeg (60 + x1))) + (ft_of (Int32.toNatClampNeg x1))) fun n4 => (if (ft_of (Int32.toNatClampNeg x1)) ≤ 0 then lt (x1 + 1) fun n6 => fX8_serves_L9 N k n6 it_kinds (upd ft_w (Int32.toNatClampNeg (60 + x1)) n4) ft_of else (if ((upd ft_w (Int32.toNatClampNeg (60 + x1)) n4) (Int32.toNatClampNeg (60 + x1))) ≤ 60 then lt (x1 + 1) fun n8 => fX8_serves_L9 N k n8 it_kinds (upd ft_w (Int32.toNatClampNeg (60 + x1)) n4) ft_of else some (.inr (0, upd ft_w (Int32.toNatClampNeg (60 + x1)) n4)))))))) := rfl
noncomputable def fX8_serves (N : Nat) (it_kinds : Int32) (it_buyerMany : Int32) (ft_w : Nat → Int32) (ft_of : Nat → Int32) (ft_buyerColumn : Nat → Int32) (ft_buyerKind : Nat → Int32) (ft_buyerCoins : Nat → Int32) (ft_weight : Nat → Int32) (ft_value : Nat → Int32) : Option (Int32 × (Nat → Int32)) := bd (fX8_copy N ft_w 0 60) fun g9 => bd (fX8_serves_L9 N N 0 it_kinds g9 ft_of) fun o => match o with | .inr rr => some rr | .inl g12 => bd (fX8_come N it_kinds it_buyerMany ft_buyerColumn ft_buyerKind ft_buyerCoins g12 ft_weight ft_value 255) fun (r13, g14) => (if r13 = 0 then some (1, g14) else some (0, g14))
set_option maxHeartbeats 4000000 in
set_option maxRecDepth 100000 in
theorem ctX8_serves (l : Launch) (D : va_G) (cI cZ cB cS : ClassId) (kK kV : Nat → Nat) (sz : Nat) (qt qt_w qt_isKept qt_value qt_weight qt_newTube qt_newPrice qt_newLow qt_newHigh qt_newGoods qt_rhythm qt_rhythmLong qt_slug qt_text qt_of qt_buyerColumn qt_buyerKind qt_buyerCoins qt_tryRow qt_tryLong qt_tryFree : Nat) (it_kinds : Int32) (it_columns : Int32) (it_slugs : Int32) (it_newKinds : Int32) (it_newColumns : Int32) (it_newSlugs : Int32) (it_rhythmTold : Int32) (it_textSize : Int32) (it_at : Int32) (it_first : Int32) (it_length : Int32) (it_faultOf : Int32) (it_fault : Int32) (it_buyerMany : Int32) (it_tryMany : Int32) (ft_w : Nat → Int32) (ft_of : Nat → Int32) (ft_buyerColumn : Nat → Int32) (ft_buyerKind : Nat → Int32) (ft_buyerCoins : Nat → Int32) (ft_weight : Nat → Int32) (ft_value : Nat → Int32)  (N : Nat) (r0 : Int32) (w_ft_w : Nat → Int32) (h : fX8_serves N it_kinds it_buyerMany ft_w ft_of ft_buyerColumn ft_buyerKind ft_buyerCoins ft_weight ft_value = some (r0, w_ft_w)) : CtI l yX8_serves wsX8_serves { frames := 5, cells := 0, slots := 0, locals := 119 } D (TY cI cZ cB cS) kK kV [.ref qt] [(qt, .inr (8, [.ref qt_w, .ref qt_isKept, .ref qt_value, .ref qt_weight, .ref qt_newTube, .ref qt_newPrice, .ref qt_newLow, .ref qt_newHigh, .ref qt_newGoods, .ref qt_rhythm, .ref qt_rhythmLong, .ref qt_slug, .int it_kinds, .int it_columns, .int it_slugs, .int it_newKinds, .int it_newColumns, .int it_newSlugs, .int it_rhythmTold, .ref qt_text, .int it_textSize, .int it_at, .int it_first, .int it_length, .int it_faultOf, .int it_fault, .ref qt_of, .ref qt_buyerColumn, .ref qt_buyerKind, .ref qt_buyerCoins, .int it_buyerMany, .ref qt_tryRow, .ref qt_tryLong, .ref qt_tryFree, .int it_tryMany])), (qt_w, .inl (cI, 240, .inl ft_w)), (qt_of, .inl (cI, 5, .inl ft_of)), (qt_buyerColumn, .inl (cI, 8, .inl ft_buyerColumn)), (qt_buyerKind, .inl (cI, 8, .inl ft_buyerKind)), (qt_buyerCoins, .inl (cI, 8, .inl ft_buyerCoins)), (qt_weight, .inl (cI, 10, .inl ft_weight)), (qt_value, .inl (cI, 10, .inl ft_value))] [(qt, .inr (8, [.ref qt_w, .ref qt_isKept, .ref qt_value, .ref qt_weight, .ref qt_newTube, .ref qt_newPrice, .ref qt_newLow, .ref qt_newHigh, .ref qt_newGoods, .ref qt_rhythm, .ref qt_rhythmLong, .ref qt_slug, .int it_kinds, .int it_columns, .int it_slugs, .int it_newKinds, .int it_newColumns, .int it_newSlugs, .int it_rhythmTold, .ref qt_text, .int it_textSize, .int it_at, .int it_first, .int it_length, .int it_faultOf, .int it_fault, .ref qt_of, .ref qt_buyerColumn, .ref qt_buyerKind, .ref qt_buyerCoins, .int it_buyerMany, .ref qt_tryRow, .ref qt_tryLong, .ref qt_tryFree, .int it_tryMany])), (qt_w, .inl (cI, 240, .inl w_ft_w)), (qt_of, .inl (cI, 5, .inl ft_of)), (qt_buyerColumn, .inl (cI, 8, .inl ft_buyerColumn)), (qt_buyerKind, .inl (cI, 8, .inl ft_buyerKind)), (qt_buyerCoins, .inl (cI, 8, .inl ft_buyerCoins)), (qt_weight, .inl (cI, 10, .inl ft_weight)), (qt_value, .inl (cI, 10, .inl ft_value))] sz r0 := by
  refine mkI (cc := cX8_serves) (maxL := 2) (rt := .boolean) (own := RX8) (by decide) rfl rfl (Nat.le_of_ble_eq_true rfl) ?_
  intro p e s m args below meth c A Z ls hx hb hml hown hts hK hN hX hP hD hA hS hret hl
  have hl : lv_has ls 2 [(0, .ref qt)] := hl
  have fl164 : (Cond.fieldLink RX8 164 "SoupWallModel" "kinds" "I").before args s = true := hts _ (List.mem_of_getElem? (l := wsX8_serves) (i := 1) rfl)
  have hiX8 : ∀ w ∈ wsX80, w ∈ wsX8_serves := fun w h => List.mem_cons_of_mem _ (List.mem_append_right _ h)
  have fl7 : (Cond.fieldLink RX8 7 "SoupWallModel" "w" "[I").before args s = true := hts _ (List.mem_of_getElem? (l := wsX8_serves) (i := 2) rfl)
  have fl54 : (Cond.fieldLink RX8 54 "SoupWallModel" "of" "[I").before args s = true := hts _ (List.mem_of_getElem? (l := wsX8_serves) (i := 3) rfl)
  have lp9 : ∀ (k : Nat) (x1 : Int32) (ft_w : Nat → Int32) (H : Heap) (locs : List Loc) (ls : Array Slot) (o : (Nat → Int32) ⊕ (Int32 × (Nat → Int32))), fX8_serves_L9 N k x1 it_kinds ft_w ft_of = some o → va_P D vwCl [(qt, .inr (8, [.ref qt_w, .ref qt_isKept, .ref qt_value, .ref qt_weight, .ref qt_newTube, .ref qt_newPrice, .ref qt_newLow, .ref qt_newHigh, .ref qt_newGoods, .ref qt_rhythm, .ref qt_rhythmLong, .ref qt_slug, .int it_kinds, .int it_columns, .int it_slugs, .int it_newKinds, .int it_newColumns, .int it_newSlugs, .int it_rhythmTold, .ref qt_text, .int it_textSize, .int it_at, .int it_first, .int it_length, .int it_faultOf, .int it_fault, .ref qt_of, .ref qt_buyerColumn, .ref qt_buyerKind, .ref qt_buyerCoins, .int it_buyerMany, .ref qt_tryRow, .ref qt_tryLong, .ref qt_tryFree, .int it_tryMany])), (qt_w, .inl (cI, 240, .inl ft_w)), (qt_of, .inl (cI, 5, .inl ft_of)), (qt_buyerColumn, .inl (cI, 8, .inl ft_buyerColumn)), (qt_buyerKind, .inl (cI, 8, .inl ft_buyerKind)), (qt_buyerCoins, .inl (cI, 8, .inl ft_buyerCoins)), (qt_weight, .inl (cI, 10, .inl ft_weight)), (qt_value, .inl (cI, 10, .inl ft_value))] H → va_S A s.heap H locs → lv_has ls 2 [(0, .ref qt), (1, .int x1)] → (∀ rr, .inr rr = o → rr = (r0, w_ft_w)) → (∀ (e_ft_w : Nat → Int32), .inl e_ft_w = o → ∀ (H : Heap) (locs : List Loc) (ls : Array Slot), va_P D vwCl [(qt, .inr (8, [.ref qt_w, .ref qt_isKept, .ref qt_value, .ref qt_weight, .ref qt_newTube, .ref qt_newPrice, .ref qt_newLow, .ref qt_newHigh, .ref qt_newGoods, .ref qt_rhythm, .ref qt_rhythmLong, .ref qt_slug, .int it_kinds, .int it_columns, .int it_slugs, .int it_newKinds, .int it_newColumns, .int it_newSlugs, .int it_rhythmTold, .ref qt_text, .int it_textSize, .int it_at, .int it_first, .int it_length, .int it_faultOf, .int it_fault, .ref qt_of, .ref qt_buyerColumn, .ref qt_buyerKind, .ref qt_buyerCoins, .int it_buyerMany, .ref qt_tryRow, .ref qt_tryLong, .ref qt_tryFree, .int it_tryMany])), (qt_w, .inl (cI, 240, .inl e_ft_w)), (qt_of, .inl (cI, 5, .inl ft_of)), (qt_buyerColumn, .inl (cI, 8, .inl ft_buyerColumn)), (qt_buyerKind, .inl (cI, 8, .inl ft_buyerKind)), (qt_buyerCoins, .inl (cI, 8, .inl ft_buyerCoins)), (qt_weight, .inl (cI, 10, .inl ft_weight)), (qt_value, .inl (cI, 10, .inl ft_value))] H → va_S A s.heap H locs → lv_has ls 2 [(0, .ref qt)] → W p l e ({ frames := 5, cells := 0, slots := 0, locals := 119 } : Room) s m args below meth c H locs 0 0 Z (F0 m 66 ls [])) → W p l e ({ frames := 5, cells := 0, slots := 0, locals := 119 } : Room) s m args below meth c H locs 0 0 Z (F0 m 9 ls []) := by
    intro k
    induction k with
    | zero =>
      intro x1 ft_w H locs ls o h
      exact nomatch (show (none : Option ((Nat → Int32) ⊕ (Int32 × (Nat → Int32)))) = some o from h)
    | succ k ih =>
      intro x1 ft_w H locs ls o h hP hS hl KR K
      rw [fX8_serves_L9_s] at h
      refine lv_iload_n hx hb dX8_serves_9 rfl (lv_at hl 1 rfl) ?_
      refine lv_aload_n hx hb dX8_serves_10 rfl (lv_at hl 0 rfl) ?_
      refine va_get (ci := 8) (v := .int it_kinds) (C := RX8) (T := TX8) (N := 35) hx hb hts hiX8 hown hK hP 0 rfl rfl 12 (by decide) fl164 (fun _ h9 => h9) rfl dX8_serves_11 ?_
      refine lv_icmp_ge (tgt := 66) hx hb dX8_serves_14 (by decide) (fun c1 => ?_) (fun c1 => ?_)
      · replace h := if_t c1 h
        exact K ft_w (Option.some.inj h) _ _ _ hP hS (lv_sub hl [0] rfl)
      · replace h := if_f c1 h
        refine lv_aload_n hx hb dX8_serves_17 rfl (lv_at hl 0 rfl) ?_
        refine va_get (ci := 8) (v := .ref qt_w) (C := RX8) (T := TX8) (N := 35) hx hb hts hiX8 hown hK hP 0 rfl rfl 0 (by decide) fl7 (fun _ h9 => h9) rfl dX8_serves_18 ?_
        refine lv_bipush (v := 60) hx hb dX8_serves_21 (by decide) ?_
        refine lv_iload_n hx hb dX8_serves_23 rfl (lv_at hl 1 rfl) ?_
        refine lv_iadd hx hb dX8_serves_24 ?_
        refine lv_dup2_11 hx hb dX8_serves_25 rfl rfl ?_
        replace h := ck_el h
        obtain ⟨hi2, h⟩ := h
        refine va_iald hx hb hK hP 1 0 rfl rfl hi2 dX8_serves_26 ?_
        refine lv_aload_n hx hb dX8_serves_27 rfl (lv_at hl 0 rfl) ?_
        refine va_get (ci := 8) (v := .ref qt_of) (C := RX8) (T := TX8) (N := 35) hx hb hts hiX8 hown hK hP 0 rfl rfl 26 (by decide) fl54 (fun _ h9 => h9) rfl dX8_serves_28 ?_
        refine lv_iload_n hx hb dX8_serves_31 rfl (lv_at hl 1 rfl) ?_
        replace h := ck_el h
        obtain ⟨hi3, h⟩ := h
        refine va_iald hx hb hK hP 2 0 rfl rfl hi3 dX8_serves_32 ?_
        refine lv_iadd hx hb dX8_serves_33 ?_
        refine lv_topi (fun n4 en4 => ?_)
        replace h := lt_at en4 h
        refine va_iast hx hb hK hP (dF hD rfl) hS 1 0 rfl rfl hi2 dX8_serves_34 (fun H locs hP _ hS => ?_)
        replace hP : va_P D vwCl [(qt, .inr (8, [.ref qt_w, .ref qt_isKept, .ref qt_value, .ref qt_weight, .ref qt_newTube, .ref qt_newPrice, .ref qt_newLow, .ref qt_newHigh, .ref qt_newGoods, .ref qt_rhythm, .ref qt_rhythmLong, .ref qt_slug, .int it_kinds, .int it_columns, .int it_slugs, .int it_newKinds, .int it_newColumns, .int it_newSlugs, .int it_rhythmTold, .ref qt_text, .int it_textSize, .int it_at, .int it_first, .int it_length, .int it_faultOf, .int it_fault, .ref qt_of, .ref qt_buyerColumn, .ref qt_buyerKind, .ref qt_buyerCoins, .int it_buyerMany, .ref qt_tryRow, .ref qt_tryLong, .ref qt_tryFree, .int it_tryMany])), (qt_w, .inl (cI, 240, .inl (upd ft_w (Int32.toNatClampNeg (60 + x1)) n4))), (qt_of, .inl (cI, 5, .inl ft_of)), (qt_buyerColumn, .inl (cI, 8, .inl ft_buyerColumn)), (qt_buyerKind, .inl (cI, 8, .inl ft_buyerKind)), (qt_buyerCoins, .inl (cI, 8, .inl ft_buyerCoins)), (qt_weight, .inl (cI, 10, .inl ft_weight)), (qt_value, .inl (cI, 10, .inl ft_value))] H := hP
        refine lv_aload_n hx hb dX8_serves_35 rfl (lv_at hl 0 rfl) ?_
        refine va_get (ci := 8) (v := .ref qt_of) (C := RX8) (T := TX8) (N := 35) hx hb hts hiX8 hown hK hP 0 rfl rfl 26 (by decide) fl54 (fun _ h9 => h9) rfl dX8_serves_36 ?_
        refine lv_iload_n hx hb dX8_serves_39 rfl (lv_at hl 1 rfl) ?_
        refine va_iald hx hb hK hP 2 0 rfl rfl hi3 dX8_serves_40 ?_
        refine lv_if_le (tgt := 60) hx hb dX8_serves_41 (by decide) (fun c5 => ?_) (fun c5 => ?_)
        · replace h := if_t c5 h
          obtain ⟨n6, en6⟩ : ∃ z : Int32, z = x1 + 1 := ⟨_, rfl⟩
          replace h := lt_at en6 h
          refine lv_iinc (v := n6) (lv' := [(1, .int n6), (0, .ref qt)]) hx hb dX8_serves_60 hl (k := 1) rfl (by rw [en6]; rfl) (by decide) rfl (fun ls hl => ?_)
          refine lv_goto (tgt := 9) hx hb dX8_serves_63 (by decide) ?_
          exact ih n6 (upd ft_w (Int32.toNatClampNeg (60 + x1)) n4) _ _ _ o h hP hS (lv_sub hl [1, 0] rfl) KR K
        · replace h := if_f c5 h
          refine lv_aload_n hx hb dX8_serves_44 rfl (lv_at hl 0 rfl) ?_
          refine va_get (ci := 8) (v := .ref qt_w) (C := RX8) (T := TX8) (N := 35) hx hb hts hiX8 hown hK hP 0 rfl rfl 0 (by decide) fl7 (fun _ h9 => h9) rfl dX8_serves_45 ?_
          refine lv_bipush (v := 60) hx hb dX8_serves_48 (by decide) ?_
          refine lv_iload_n hx hb dX8_serves_50 rfl (lv_at hl 1 rfl) ?_
          refine lv_iadd hx hb dX8_serves_51 ?_
          refine va_iald hx hb hK hP 1 0 rfl rfl hi2 dX8_serves_52 ?_
          refine lv_bipush (v := 60) hx hb dX8_serves_53 (by decide) ?_
          refine lv_icmp_le (tgt := 60) hx hb dX8_serves_55 (by decide) (fun c7 => ?_) (fun c7 => ?_)
          · replace h := if_t c7 h
            obtain ⟨n8, en8⟩ : ∃ z : Int32, z = x1 + 1 := ⟨_, rfl⟩
            replace h := lt_at en8 h
            refine lv_iinc (v := n8) (lv' := [(1, .int n8), (0, .ref qt)]) hx hb dX8_serves_60 hl (k := 1) rfl (by rw [en8]; rfl) (by decide) rfl (fun ls hl => ?_)
            refine lv_goto (tgt := 9) hx hb dX8_serves_63 (by decide) ?_
            exact ih n8 (upd ft_w (Int32.toNatClampNeg (60 + x1)) n4) _ _ _ o h hP hS (lv_sub hl [1, 0] rfl) KR K
          · replace h := if_f c7 h
            refine lv_iconst (v := 0) hx hb dX8_serves_58 (by decide) ?_
            have hz9 := KR _ (Option.some.inj h)
            simp only [Prod.mk.injEq] at hz9
            obtain ⟨rfl, rfl⟩ := hz9
            exact hret _ _ _ _ hP hS rfl dX8_serves_59
  unfold fX8_serves at h
  refine lv_aload_n hx hb dX8_serves_0 rfl (lv_at hl 0 rfl) ?_
  refine lv_iconst (v := 0) hx hb dX8_serves_1 (by decide) ?_
  refine lv_bipush (v := 60) hx hb dX8_serves_2 (by decide) ?_
  replace h := bd_el h
  obtain ⟨g9, hc10, h⟩ := h
  refine callVV (rest := []) ⟨hx, hb, hml, hown, hts⟩ (ctX8_copy l D cI cZ cB cS kK kV _ qt qt_w qt_isKept qt_value qt_weight qt_newTube qt_newPrice qt_newLow qt_newHigh qt_newGoods qt_rhythm qt_rhythmLong qt_slug qt_text qt_of qt_buyerColumn qt_buyerKind qt_buyerCoins qt_tryRow qt_tryLong qt_tryFree it_kinds it_columns it_slugs it_newKinds it_newColumns it_newSlugs it_rhythmTold it_textSize it_at it_first it_length it_faultOf it_fault it_buyerMany it_tryMany ft_w 0 60 N g9 hc10) (cwV 2 hts gX8_serves_X8_copy rfl rfl rfl hdX8_copy ⟨Nat.le_of_ble_eq_true rfl, Nat.le_of_ble_eq_true rfl⟩) hK hN hX hP (dF hD rfl) hS hA [0, 1] (mcC rfl (mcC rfl mcN)) (by decide +kernel) [(qt, .inr (8, [.ref qt_w, .ref qt_isKept, .ref qt_value, .ref qt_weight, .ref qt_newTube, .ref qt_newPrice, .ref qt_newLow, .ref qt_newHigh, .ref qt_newGoods, .ref qt_rhythm, .ref qt_rhythmLong, .ref qt_slug, .int it_kinds, .int it_columns, .int it_slugs, .int it_newKinds, .int it_newColumns, .int it_newSlugs, .int it_rhythmTold, .ref qt_text, .int it_textSize, .int it_at, .int it_first, .int it_length, .int it_faultOf, .int it_fault, .ref qt_of, .ref qt_buyerColumn, .ref qt_buyerKind, .ref qt_buyerCoins, .int it_buyerMany, .ref qt_tryRow, .ref qt_tryLong, .ref qt_tryFree, .int it_tryMany])), (qt_w, .inl (cI, 240, .inl g9)), (qt_of, .inl (cI, 5, .inl ft_of)), (qt_buyerColumn, .inl (cI, 8, .inl ft_buyerColumn)), (qt_buyerKind, .inl (cI, 8, .inl ft_buyerKind)), (qt_buyerCoins, .inl (cI, 8, .inl ft_buyerCoins)), (qt_weight, .inl (cI, 10, .inl ft_weight)), (qt_value, .inl (cI, 10, .inl ft_value))] [2, 3, 4, 5, 6, 7] (mcC rfl (mcC rfl mcN)) ((mcC rfl (mcC rfl (mcC rfl (mcC rfl (mcC rfl (mcC rfl mcN)))))).trans (mcC rfl (mcC rfl (mcC rfl (mcC rfl (mcC rfl (mcC rfl mcN)))))).symm) 8 rfl (by decide +kernel) (va_recv hK hP (ci := 8) (q0 := 0) rfl rfl) rfl hl.1 rfl (Nat.le_of_ble_eq_true rfl) ⟨Nat.zero_le _, Nat.zero_le _⟩ dX8_serves_4 (fun H locs hP hS => ?_)
  refine lv_iconst (v := 0) hx hb dX8_serves_7 (by decide) ?_
  refine lv_istore_n (lv' := [(1, .int 0), (0, .ref qt)]) hx hb dX8_serves_8 rfl hl (by decide) rfl (fun ls hl => ?_)
  replace h := bd_el h
  obtain ⟨o11, ho11, h⟩ := h
  refine lp9 N 0 g9 _ _ _ o11 ho11 hP hS (lv_sub hl [1, 0] rfl) (fun rr er => by subst er; exact Option.some.inj h) (fun g12 eo H locs ls hP hS hl => ?_)
  subst eo
  dsimp only at h
  refine lv_aload_n hx hb dX8_serves_66 rfl (lv_at hl 0 rfl) ?_
  refine lv_sipush (v := 255) hx hb dX8_serves_67 (by decide) ?_
  replace h := bd_el h
  obtain ⟨⟨r13, g14⟩, hc15, h⟩ := h
  refine callVI (rest := []) ⟨hx, hb, hml, hown, hts⟩ (ctX8_come l D cI cZ cB cS kK kV _ qt qt_w qt_isKept qt_value qt_weight qt_newTube qt_newPrice qt_newLow qt_newHigh qt_newGoods qt_rhythm qt_rhythmLong qt_slug qt_text qt_of qt_buyerColumn qt_buyerKind qt_buyerCoins qt_tryRow qt_tryLong qt_tryFree it_kinds it_columns it_slugs it_newKinds it_newColumns it_newSlugs it_rhythmTold it_textSize it_at it_first it_length it_faultOf it_fault it_buyerMany it_tryMany ft_buyerColumn ft_buyerKind ft_buyerCoins g12 ft_weight ft_value 255 N r13 g14 hc15) (cwV 1 hts gX8_serves_X8_come rfl rfl rfl hdX8_come ⟨Nat.le_of_ble_eq_true rfl, Nat.le_of_ble_eq_true rfl⟩) hK hN hX hP (dF hD rfl) hS hA [0, 3, 4, 5, 1, 6, 7] (mcC rfl (mcC rfl (mcC rfl (mcC rfl (mcC rfl (mcC rfl (mcC rfl mcN))))))) (by decide +kernel) [(qt, .inr (8, [.ref qt_w, .ref qt_isKept, .ref qt_value, .ref qt_weight, .ref qt_newTube, .ref qt_newPrice, .ref qt_newLow, .ref qt_newHigh, .ref qt_newGoods, .ref qt_rhythm, .ref qt_rhythmLong, .ref qt_slug, .int it_kinds, .int it_columns, .int it_slugs, .int it_newKinds, .int it_newColumns, .int it_newSlugs, .int it_rhythmTold, .ref qt_text, .int it_textSize, .int it_at, .int it_first, .int it_length, .int it_faultOf, .int it_fault, .ref qt_of, .ref qt_buyerColumn, .ref qt_buyerKind, .ref qt_buyerCoins, .int it_buyerMany, .ref qt_tryRow, .ref qt_tryLong, .ref qt_tryFree, .int it_tryMany])), (qt_w, .inl (cI, 240, .inl g14)), (qt_of, .inl (cI, 5, .inl ft_of)), (qt_buyerColumn, .inl (cI, 8, .inl ft_buyerColumn)), (qt_buyerKind, .inl (cI, 8, .inl ft_buyerKind)), (qt_buyerCoins, .inl (cI, 8, .inl ft_buyerCoins)), (qt_weight, .inl (cI, 10, .inl ft_weight)), (qt_value, .inl (cI, 10, .inl ft_value))] [2] (mcC rfl (mcC rfl (mcC rfl (mcC rfl (mcC rfl (mcC rfl (mcC rfl mcN))))))) ((mcC rfl mcN).trans (mcC rfl mcN).symm) 8 rfl (by decide +kernel) (va_recv hK hP (ci := 8) (q0 := 0) rfl rfl) rfl hl.1 rfl (Nat.le_of_ble_eq_true rfl) ⟨Nat.zero_le _, Nat.zero_le _⟩ dX8_serves_70 (fun H locs hP hS => ?_)
  refine lv_if_ne (tgt := 80) hx hb dX8_serves_73 (by decide) (fun c16 => ?_) (fun c16 => ?_)
  · replace h := if_f c16 h
    refine lv_iconst (v := 0) hx hb dX8_serves_80 (by decide) ?_
    simp only [Option.some.injEq, Prod.mk.injEq] at h
    obtain ⟨rfl, rfl⟩ := h
    exact hret _ _ _ _ hP hS rfl dX8_serves_81
  · replace h := if_t c16 h
    refine lv_iconst (v := 1) hx hb dX8_serves_76 (by decide) ?_
    refine lv_goto (tgt := 81) hx hb dX8_serves_77 (by decide) ?_
    simp only [Option.some.injEq, Prod.mk.injEq] at h
    obtain ⟨rfl, rfl⟩ := h
    exact hret _ _ _ _ hP hS rfl dX8_serves_81
theorem hdX8_serves : yX8_serves.cls = RX8 ∧ yX8_serves.cls ≠ "java/lang/invoke/MethodHandle" ∧ yX8_serves.cls ≠ "java/lang/invoke/VarHandle" ∧ (parseMethodDescriptor yX8_serves.desc).map (fun d => d.parameters.length) = some 0 := by decide +kernel

noncomputable def fX8_fill_L24 (N : Nat) : Nat → Int32 → Int32 → Int32 → Int32 → Int32 → Int32 → (Nat → Int32) → (Nat → Int32) → (Nat → Int32) → (Nat → Int32) → (Nat → Int32) → (Nat → Int32) → (Nat → Int32) → Option (Int32 × (Nat → Int32) × (Nat → Int32))
  | 0, _, _, _, _, _, _, _, _, _, _, _, _, _ => none
  | k + 1, x1, x2, x3, x4, it_kinds, it_buyerMany, ft_of, ft_w, ft_buyerColumn, ft_buyerKind, ft_buyerCoins, ft_weight, ft_value => bd (fX8_codes N it_kinds) fun r1 => (if r1 ≤ x4 then some (x2, ft_of, ft_w) else bd (fX8_layRow N it_kinds ft_of x4) fun (r4, g5) => (if x3 ≤ r4 then lt (x4 + 1) fun n8 => fX8_fill_L24 N k x1 x2 x3 n8 it_kinds it_buyerMany g5 ft_w ft_buyerColumn ft_buyerKind ft_buyerCoins ft_weight ft_value else bd (fX8_serves N it_kinds it_buyerMany ft_w g5 ft_buyerColumn ft_buyerKind ft_buyerCoins ft_weight ft_value) fun (r9, g10) => (if r9 = 0 then lt (x4 + 1) fun n13 => fX8_fill_L24 N k x1 x2 x3 n13 it_kinds it_buyerMany g5 g10 ft_buyerColumn ft_buyerKind ft_buyerCoins ft_weight ft_value else lt (x4 + 1) fun n14 => fX8_fill_L24 N k x1 x4 r4 n14 it_kinds it_buyerMany g5 g10 ft_buyerColumn ft_buyerKind ft_buyerCoins ft_weight ft_value)))
theorem fX8_fill_L24_s (N : Nat) (k : Nat) (x1 : Int32) (x2 : Int32) (x3 : Int32) (x4 : Int32) (it_kinds : Int32) (it_buyerMany : Int32) (ft_of : Nat → Int32) (ft_w : Nat → Int32) (ft_buyerColumn : Nat → Int32) (ft_buyerKind : Nat → Int32) (ft_buyerCoins : Nat → Int32) (ft_weight : Nat → Int32) (ft_value : Nat → Int32) : fX8_fill_L24 N (k + 1) x1 x2 x3 x4 it_kinds it_buyerMany ft_of ft_w ft_buyerColumn ft_buyerKind ft_buyerCoins ft_weight ft_value = (bd (fX8_codes N it_kinds) fun r1 => (if r1 ≤ x4 then some (x2, ft_of, ft_w) else bd (fX8_layRow N it_kinds ft_of x4) fun (r4, g5) => (if x3 ≤ r4 then lt (x4 + 1) fun n8 => fX8_fill_L24 N k x1 x2 x3 n8 it_kinds it_buyerMany g5 ft_w ft_buyerColumn ft_buyerKind ft_buyerCoins ft_weight ft_value else bd (fX8_serves N it_kinds it_buyerMany ft_w g5 ft_buyerColumn ft_buyerKind ft_buyerCoins ft_weight ft_value) fun (r9, g10) => (if r9 = 0 then lt (x4 + 1) fun n13 => fX8_fill_L24 N k x1 x2 x3 n13 it_kinds it_buyerMany g5 g10 ft_buyerColumn ft_buyerKind ft_buyerCoins ft_weight ft_value else lt (x4 + 1) fun n14 => fX8_fill_L24 N k x1 x4 r4 n14 it_kinds it_buyerMany g5 g10 ft_buyerColumn ft_buyerKind ft_buyerCoins ft_weight ft_value)))) := rfl
noncomputable def fX8_fill (N : Nat) (it_kinds : Int32) (it_buyerMany : Int32) (ft_of : Nat → Int32) (ft_w : Nat → Int32) (ft_buyerColumn : Nat → Int32) (ft_buyerKind : Nat → Int32) (ft_buyerCoins : Nat → Int32) (ft_weight : Nat → Int32) (ft_value : Nat → Int32) (x1 : Int32) : Option (Int32 × (Nat → Int32) × (Nat → Int32)) := (if x1 = (-1) then bd (fX8_fill_L24 N N x1 (-1) 6 0 it_kinds it_buyerMany ft_of ft_w ft_buyerColumn ft_buyerKind ft_buyerCoins ft_weight ft_value) fun (n17, g18, g19) => (if 0 ≤ n17 then bd (fX8_layRow N it_kinds g18 n17) fun (r21, g22) => (if 0 ≤ x1 then ck x1 5 (lt (g22 (Int32.toNatClampNeg x1)) fun n26 => some (n26, g22, g19)) else some (r21, g22, g19)) else some ((-1), g18, g19)) else bd (fX8_isKind N it_kinds x1) fun r27 => (if r27 = 0 then some ((-1000000001), ft_of, ft_w) else bd (fX8_fill_L24 N N x1 (-1) 6 0 it_kinds it_buyerMany ft_of ft_w ft_buyerColumn ft_buyerKind ft_buyerCoins ft_weight ft_value) fun (n31, g32, g33) => (if 0 ≤ n31 then bd (fX8_layRow N it_kinds g32 n31) fun (r35, g36) => (if 0 ≤ x1 then ck x1 5 (lt (g36 (Int32.toNatClampNeg x1)) fun n40 => some (n40, g36, g33)) else some (r35, g36, g33)) else some ((-1), g32, g33))))
set_option maxHeartbeats 4000000 in
set_option maxRecDepth 100000 in
theorem ctX8_fill (l : Launch) (D : va_G) (cI cZ cB cS : ClassId) (kK kV : Nat → Nat) (sz : Nat) (qt qt_w qt_isKept qt_value qt_weight qt_newTube qt_newPrice qt_newLow qt_newHigh qt_newGoods qt_rhythm qt_rhythmLong qt_slug qt_text qt_of qt_buyerColumn qt_buyerKind qt_buyerCoins qt_tryRow qt_tryLong qt_tryFree : Nat) (it_kinds : Int32) (it_columns : Int32) (it_slugs : Int32) (it_newKinds : Int32) (it_newColumns : Int32) (it_newSlugs : Int32) (it_rhythmTold : Int32) (it_textSize : Int32) (it_at : Int32) (it_first : Int32) (it_length : Int32) (it_faultOf : Int32) (it_fault : Int32) (it_buyerMany : Int32) (it_tryMany : Int32) (ft_of : Nat → Int32) (ft_w : Nat → Int32) (ft_buyerColumn : Nat → Int32) (ft_buyerKind : Nat → Int32) (ft_buyerCoins : Nat → Int32) (ft_weight : Nat → Int32) (ft_value : Nat → Int32) (x1 : Int32) (N : Nat) (r0 : Int32) (w_ft_of : Nat → Int32) (w_ft_w : Nat → Int32) (h : fX8_fill N it_kinds it_buyerMany ft_of ft_w ft_buyerColumn ft_buyerKind ft_buyerCoins ft_weight ft_value x1 = some (r0, w_ft_of, w_ft_w)) : CtI l yX8_fill wsX8_fill { frames := 6, cells := 0, slots := 0, locals := 140 } D (TY cI cZ cB cS) kK kV [.ref qt, .int x1] [(qt, .inr (8, [.ref qt_w, .ref qt_isKept, .ref qt_value, .ref qt_weight, .ref qt_newTube, .ref qt_newPrice, .ref qt_newLow, .ref qt_newHigh, .ref qt_newGoods, .ref qt_rhythm, .ref qt_rhythmLong, .ref qt_slug, .int it_kinds, .int it_columns, .int it_slugs, .int it_newKinds, .int it_newColumns, .int it_newSlugs, .int it_rhythmTold, .ref qt_text, .int it_textSize, .int it_at, .int it_first, .int it_length, .int it_faultOf, .int it_fault, .ref qt_of, .ref qt_buyerColumn, .ref qt_buyerKind, .ref qt_buyerCoins, .int it_buyerMany, .ref qt_tryRow, .ref qt_tryLong, .ref qt_tryFree, .int it_tryMany])), (qt_of, .inl (cI, 5, .inl ft_of)), (qt_w, .inl (cI, 240, .inl ft_w)), (qt_buyerColumn, .inl (cI, 8, .inl ft_buyerColumn)), (qt_buyerKind, .inl (cI, 8, .inl ft_buyerKind)), (qt_buyerCoins, .inl (cI, 8, .inl ft_buyerCoins)), (qt_weight, .inl (cI, 10, .inl ft_weight)), (qt_value, .inl (cI, 10, .inl ft_value))] [(qt, .inr (8, [.ref qt_w, .ref qt_isKept, .ref qt_value, .ref qt_weight, .ref qt_newTube, .ref qt_newPrice, .ref qt_newLow, .ref qt_newHigh, .ref qt_newGoods, .ref qt_rhythm, .ref qt_rhythmLong, .ref qt_slug, .int it_kinds, .int it_columns, .int it_slugs, .int it_newKinds, .int it_newColumns, .int it_newSlugs, .int it_rhythmTold, .ref qt_text, .int it_textSize, .int it_at, .int it_first, .int it_length, .int it_faultOf, .int it_fault, .ref qt_of, .ref qt_buyerColumn, .ref qt_buyerKind, .ref qt_buyerCoins, .int it_buyerMany, .ref qt_tryRow, .ref qt_tryLong, .ref qt_tryFree, .int it_tryMany])), (qt_of, .inl (cI, 5, .inl w_ft_of)), (qt_w, .inl (cI, 240, .inl w_ft_w)), (qt_buyerColumn, .inl (cI, 8, .inl ft_buyerColumn)), (qt_buyerKind, .inl (cI, 8, .inl ft_buyerKind)), (qt_buyerCoins, .inl (cI, 8, .inl ft_buyerCoins)), (qt_weight, .inl (cI, 10, .inl ft_weight)), (qt_value, .inl (cI, 10, .inl ft_value))] sz r0 := by
  refine mkI (cc := cX8_fill) (maxL := 6) (rt := .int) (own := RX8) (by decide) rfl rfl (Nat.le_of_ble_eq_true rfl) ?_
  intro p e s m args below meth c A Z ls hx hb hml hown hts hK hN hX hP hD hA hS hret hl
  have hl : lv_has ls 6 [(0, .ref qt), (1, .int x1)] := hl
  have fl54 : (Cond.fieldLink RX8 54 "SoupWallModel" "of" "[I").before args s = true := hts _ (List.mem_of_getElem? (l := wsX8_fill) (i := 2) rfl)
  have hiX8 : ∀ w ∈ wsX80, w ∈ wsX8_fill := fun w h => List.mem_cons_of_mem _ (List.mem_append_right _ h)
  have cn193 : (Cond.constant RX8 193 (-1000000001)).before args s = true := hts _ (List.mem_of_getElem? (l := wsX8_fill) (i := 1) rfl)
  have lp24 : ∀ (k : Nat) (x1 : Int32) (x2 : Int32) (x3 : Int32) (x4 : Int32) (ft_of : Nat → Int32) (ft_w : Nat → Int32) (H : Heap) (locs : List Loc) (ls : Array Slot) (o : Int32 × (Nat → Int32) × (Nat → Int32)), fX8_fill_L24 N k x1 x2 x3 x4 it_kinds it_buyerMany ft_of ft_w ft_buyerColumn ft_buyerKind ft_buyerCoins ft_weight ft_value = some o → va_P D vwCl [(qt, .inr (8, [.ref qt_w, .ref qt_isKept, .ref qt_value, .ref qt_weight, .ref qt_newTube, .ref qt_newPrice, .ref qt_newLow, .ref qt_newHigh, .ref qt_newGoods, .ref qt_rhythm, .ref qt_rhythmLong, .ref qt_slug, .int it_kinds, .int it_columns, .int it_slugs, .int it_newKinds, .int it_newColumns, .int it_newSlugs, .int it_rhythmTold, .ref qt_text, .int it_textSize, .int it_at, .int it_first, .int it_length, .int it_faultOf, .int it_fault, .ref qt_of, .ref qt_buyerColumn, .ref qt_buyerKind, .ref qt_buyerCoins, .int it_buyerMany, .ref qt_tryRow, .ref qt_tryLong, .ref qt_tryFree, .int it_tryMany])), (qt_of, .inl (cI, 5, .inl ft_of)), (qt_w, .inl (cI, 240, .inl ft_w)), (qt_buyerColumn, .inl (cI, 8, .inl ft_buyerColumn)), (qt_buyerKind, .inl (cI, 8, .inl ft_buyerKind)), (qt_buyerCoins, .inl (cI, 8, .inl ft_buyerCoins)), (qt_weight, .inl (cI, 10, .inl ft_weight)), (qt_value, .inl (cI, 10, .inl ft_value))] H → va_S A s.heap H locs → lv_has ls 6 [(0, .ref qt), (1, .int x1), (2, .int x2), (3, .int x3), (4, .int x4)] → (∀ (e2 : Int32) (e_ft_of : Nat → Int32) (e_ft_w : Nat → Int32), (e2, e_ft_of, e_ft_w) = o → ∀ (H : Heap) (locs : List Loc) (ls : Array Slot), va_P D vwCl [(qt, .inr (8, [.ref qt_w, .ref qt_isKept, .ref qt_value, .ref qt_weight, .ref qt_newTube, .ref qt_newPrice, .ref qt_newLow, .ref qt_newHigh, .ref qt_newGoods, .ref qt_rhythm, .ref qt_rhythmLong, .ref qt_slug, .int it_kinds, .int it_columns, .int it_slugs, .int it_newKinds, .int it_newColumns, .int it_newSlugs, .int it_rhythmTold, .ref qt_text, .int it_textSize, .int it_at, .int it_first, .int it_length, .int it_faultOf, .int it_fault, .ref qt_of, .ref qt_buyerColumn, .ref qt_buyerKind, .ref qt_buyerCoins, .int it_buyerMany, .ref qt_tryRow, .ref qt_tryLong, .ref qt_tryFree, .int it_tryMany])), (qt_of, .inl (cI, 5, .inl e_ft_of)), (qt_w, .inl (cI, 240, .inl e_ft_w)), (qt_buyerColumn, .inl (cI, 8, .inl ft_buyerColumn)), (qt_buyerKind, .inl (cI, 8, .inl ft_buyerKind)), (qt_buyerCoins, .inl (cI, 8, .inl ft_buyerCoins)), (qt_weight, .inl (cI, 10, .inl ft_weight)), (qt_value, .inl (cI, 10, .inl ft_value))] H → va_S A s.heap H locs → lv_has ls 6 [(0, .ref qt), (1, .int x1), (2, .int e2)] → W p l e ({ frames := 6, cells := 0, slots := 0, locals := 140 } : Room) s m args below meth c H locs 0 0 Z (F0 m 66 ls [])) → W p l e ({ frames := 6, cells := 0, slots := 0, locals := 140 } : Room) s m args below meth c H locs 0 0 Z (F0 m 24 ls []) := by
    intro k
    induction k with
    | zero =>
      intro x1 x2 x3 x4 ft_of ft_w H locs ls o h
      exact nomatch (show (none : Option (Int32 × (Nat → Int32) × (Nat → Int32))) = some o from h)
    | succ k ih =>
      intro x1 x2 x3 x4 ft_of ft_w H locs ls o h hP hS hl K
      rw [fX8_fill_L24_s] at h
      refine lv_iload hx hb dX8_fill_24 (lv_at hl 4 rfl) ?_
      refine lv_aload_n hx hb dX8_fill_26 rfl (lv_at hl 0 rfl) ?_
      replace h := bd_el h
      obtain ⟨r1, hc2, h⟩ := h
      refine callVI (rest := [.int x4]) ⟨hx, hb, hml, hown, hts⟩ (ctX8_codes l D cI cZ cB cS kK kV _ qt qt_w qt_isKept qt_value qt_weight qt_newTube qt_newPrice qt_newLow qt_newHigh qt_newGoods qt_rhythm qt_rhythmLong qt_slug qt_text qt_of qt_buyerColumn qt_buyerKind qt_buyerCoins qt_tryRow qt_tryLong qt_tryFree it_kinds it_columns it_slugs it_newKinds it_newColumns it_newSlugs it_rhythmTold it_textSize it_at it_first it_length it_faultOf it_fault it_buyerMany it_tryMany N r1 hc2) (cwV 0 hts gX8_fill_X8_codes rfl rfl rfl hdX8_codes ⟨Nat.le_of_ble_eq_true rfl, Nat.le_of_ble_eq_true rfl⟩) hK hN hX hP (dF hD rfl) hS hA [0] (mcC rfl mcN) (by decide +kernel) [(qt, .inr (8, [.ref qt_w, .ref qt_isKept, .ref qt_value, .ref qt_weight, .ref qt_newTube, .ref qt_newPrice, .ref qt_newLow, .ref qt_newHigh, .ref qt_newGoods, .ref qt_rhythm, .ref qt_rhythmLong, .ref qt_slug, .int it_kinds, .int it_columns, .int it_slugs, .int it_newKinds, .int it_newColumns, .int it_newSlugs, .int it_rhythmTold, .ref qt_text, .int it_textSize, .int it_at, .int it_first, .int it_length, .int it_faultOf, .int it_fault, .ref qt_of, .ref qt_buyerColumn, .ref qt_buyerKind, .ref qt_buyerCoins, .int it_buyerMany, .ref qt_tryRow, .ref qt_tryLong, .ref qt_tryFree, .int it_tryMany])), (qt_of, .inl (cI, 5, .inl ft_of)), (qt_w, .inl (cI, 240, .inl ft_w)), (qt_buyerColumn, .inl (cI, 8, .inl ft_buyerColumn)), (qt_buyerKind, .inl (cI, 8, .inl ft_buyerKind)), (qt_buyerCoins, .inl (cI, 8, .inl ft_buyerCoins)), (qt_weight, .inl (cI, 10, .inl ft_weight)), (qt_value, .inl (cI, 10, .inl ft_value))] [1, 2, 3, 4, 5, 6, 7] (mcC rfl mcN) ((mcC rfl (mcC rfl (mcC rfl (mcC rfl (mcC rfl (mcC rfl (mcC rfl mcN))))))).trans (mcC rfl (mcC rfl (mcC rfl (mcC rfl (mcC rfl (mcC rfl (mcC rfl mcN))))))).symm) 8 rfl (by decide +kernel) (va_recv hK hP (ci := 8) (q0 := 0) rfl rfl) rfl hl.1 rfl (Nat.le_of_ble_eq_true rfl) ⟨Nat.zero_le _, Nat.zero_le _⟩ dX8_fill_27 (fun H locs hP hS => ?_)
      refine lv_icmp_ge (tgt := 66) hx hb dX8_fill_30 (by decide) (fun c3 => ?_) (fun c3 => ?_)
      · replace h := if_t c3 h
        exact K x2 ft_of ft_w (Option.some.inj h) _ _ _ hP hS (lv_sub hl [0, 1, 2] rfl)
      · replace h := if_f c3 h
        refine lv_aload_n hx hb dX8_fill_33 rfl (lv_at hl 0 rfl) ?_
        refine lv_iload hx hb dX8_fill_34 (lv_at hl 4 rfl) ?_
        replace h := bd_el h
        obtain ⟨⟨r4, g5⟩, hc6, h⟩ := h
        refine callVI (rest := []) ⟨hx, hb, hml, hown, hts⟩ (ctX8_layRow l D cI cZ cB cS kK kV _ qt qt_w qt_isKept qt_value qt_weight qt_newTube qt_newPrice qt_newLow qt_newHigh qt_newGoods qt_rhythm qt_rhythmLong qt_slug qt_text qt_of qt_buyerColumn qt_buyerKind qt_buyerCoins qt_tryRow qt_tryLong qt_tryFree it_kinds it_columns it_slugs it_newKinds it_newColumns it_newSlugs it_rhythmTold it_textSize it_at it_first it_length it_faultOf it_fault it_buyerMany it_tryMany ft_of x4 N r4 g5 hc6) (cwV 1 hts gX8_fill_X8_layRow rfl rfl rfl hdX8_layRow ⟨Nat.le_of_ble_eq_true rfl, Nat.le_of_ble_eq_true rfl⟩) hK hN hX hP (dF hD rfl) hS hA [0, 1] (mcC rfl (mcC rfl mcN)) (by decide +kernel) [(qt, .inr (8, [.ref qt_w, .ref qt_isKept, .ref qt_value, .ref qt_weight, .ref qt_newTube, .ref qt_newPrice, .ref qt_newLow, .ref qt_newHigh, .ref qt_newGoods, .ref qt_rhythm, .ref qt_rhythmLong, .ref qt_slug, .int it_kinds, .int it_columns, .int it_slugs, .int it_newKinds, .int it_newColumns, .int it_newSlugs, .int it_rhythmTold, .ref qt_text, .int it_textSize, .int it_at, .int it_first, .int it_length, .int it_faultOf, .int it_fault, .ref qt_of, .ref qt_buyerColumn, .ref qt_buyerKind, .ref qt_buyerCoins, .int it_buyerMany, .ref qt_tryRow, .ref qt_tryLong, .ref qt_tryFree, .int it_tryMany])), (qt_of, .inl (cI, 5, .inl g5)), (qt_w, .inl (cI, 240, .inl ft_w)), (qt_buyerColumn, .inl (cI, 8, .inl ft_buyerColumn)), (qt_buyerKind, .inl (cI, 8, .inl ft_buyerKind)), (qt_buyerCoins, .inl (cI, 8, .inl ft_buyerCoins)), (qt_weight, .inl (cI, 10, .inl ft_weight)), (qt_value, .inl (cI, 10, .inl ft_value))] [2, 3, 4, 5, 6, 7] (mcC rfl (mcC rfl mcN)) ((mcC rfl (mcC rfl (mcC rfl (mcC rfl (mcC rfl (mcC rfl mcN)))))).trans (mcC rfl (mcC rfl (mcC rfl (mcC rfl (mcC rfl (mcC rfl mcN)))))).symm) 8 rfl (by decide +kernel) (va_recv hK hP (ci := 8) (q0 := 0) rfl rfl) rfl hl.1 rfl (Nat.le_of_ble_eq_true rfl) ⟨Nat.zero_le _, Nat.zero_le _⟩ dX8_fill_36 (fun H locs hP hS => ?_)
        refine lv_istore (lv' := [(5, .int r4), (0, .ref qt), (1, .int x1), (2, .int x2), (3, .int x3), (4, .int x4)]) hx hb dX8_fill_39 hl (by decide) rfl (fun ls hl => ?_)
        refine lv_iload hx hb dX8_fill_41 (lv_at hl 0 rfl) ?_
        refine lv_iload_n hx hb dX8_fill_43 rfl (lv_at hl 4 rfl) ?_
        refine lv_icmp_ge (tgt := 60) hx hb dX8_fill_44 (by decide) (fun c7 => ?_) (fun c7 => ?_)
        · replace h := if_t c7 h
          obtain ⟨n8, en8⟩ : ∃ z : Int32, z = x4 + 1 := ⟨_, rfl⟩
          replace h := lt_at en8 h
          refine lv_iinc (v := n8) (lv' := [(4, .int n8), (5, .int r4), (0, .ref qt), (1, .int x1), (2, .int x2), (3, .int x3)]) hx hb dX8_fill_60 hl (k := 5) rfl (by rw [en8]; rfl) (by decide) rfl (fun ls hl => ?_)
          refine lv_goto (tgt := 24) hx hb dX8_fill_63 (by decide) ?_
          exact ih x1 x2 x3 n8 g5 ft_w _ _ _ o h hP hS (lv_sub hl [2, 3, 4, 5, 0] rfl) K
        · replace h := if_f c7 h
          refine lv_aload_n hx hb dX8_fill_47 rfl (lv_at hl 1 rfl) ?_
          replace h := bd_el h
          obtain ⟨⟨r9, g10⟩, hc11, h⟩ := h
          refine callVI (rest := []) ⟨hx, hb, hml, hown, hts⟩ (ctX8_serves l D cI cZ cB cS kK kV _ qt qt_w qt_isKept qt_value qt_weight qt_newTube qt_newPrice qt_newLow qt_newHigh qt_newGoods qt_rhythm qt_rhythmLong qt_slug qt_text qt_of qt_buyerColumn qt_buyerKind qt_buyerCoins qt_tryRow qt_tryLong qt_tryFree it_kinds it_columns it_slugs it_newKinds it_newColumns it_newSlugs it_rhythmTold it_textSize it_at it_first it_length it_faultOf it_fault it_buyerMany it_tryMany ft_w g5 ft_buyerColumn ft_buyerKind ft_buyerCoins ft_weight ft_value N r9 g10 hc11) (cwV 0 hts gX8_fill_X8_serves rfl rfl rfl hdX8_serves ⟨Nat.le_of_ble_eq_true rfl, Nat.le_of_ble_eq_true rfl⟩) hK hN hX hP (dF hD rfl) hS hA [0, 2, 1, 3, 4, 5, 6, 7] (mcC rfl (mcC rfl (mcC rfl (mcC rfl (mcC rfl (mcC rfl (mcC rfl (mcC rfl mcN)))))))) (by decide +kernel) [(qt, .inr (8, [.ref qt_w, .ref qt_isKept, .ref qt_value, .ref qt_weight, .ref qt_newTube, .ref qt_newPrice, .ref qt_newLow, .ref qt_newHigh, .ref qt_newGoods, .ref qt_rhythm, .ref qt_rhythmLong, .ref qt_slug, .int it_kinds, .int it_columns, .int it_slugs, .int it_newKinds, .int it_newColumns, .int it_newSlugs, .int it_rhythmTold, .ref qt_text, .int it_textSize, .int it_at, .int it_first, .int it_length, .int it_faultOf, .int it_fault, .ref qt_of, .ref qt_buyerColumn, .ref qt_buyerKind, .ref qt_buyerCoins, .int it_buyerMany, .ref qt_tryRow, .ref qt_tryLong, .ref qt_tryFree, .int it_tryMany])), (qt_of, .inl (cI, 5, .inl g5)), (qt_w, .inl (cI, 240, .inl g10)), (qt_buyerColumn, .inl (cI, 8, .inl ft_buyerColumn)), (qt_buyerKind, .inl (cI, 8, .inl ft_buyerKind)), (qt_buyerCoins, .inl (cI, 8, .inl ft_buyerCoins)), (qt_weight, .inl (cI, 10, .inl ft_weight)), (qt_value, .inl (cI, 10, .inl ft_value))] [] (mcC rfl (mcC rfl (mcC rfl (mcC rfl (mcC rfl (mcC rfl (mcC rfl (mcC rfl mcN)))))))) (mcN.trans mcN.symm) 8 rfl (by decide +kernel) (va_recv hK hP (ci := 8) (q0 := 0) rfl rfl) rfl hl.1 rfl (Nat.le_of_ble_eq_true rfl) ⟨Nat.zero_le _, Nat.zero_le _⟩ dX8_fill_48 (fun H locs hP hS => ?_)
          refine lv_if_eq (tgt := 60) hx hb dX8_fill_51 (by decide) (fun c12 => ?_) (fun c12 => ?_)
          · replace h := if_t c12 h
            obtain ⟨n13, en13⟩ : ∃ z : Int32, z = x4 + 1 := ⟨_, rfl⟩
            replace h := lt_at en13 h
            refine lv_iinc (v := n13) (lv' := [(4, .int n13), (5, .int r4), (0, .ref qt), (1, .int x1), (2, .int x2), (3, .int x3)]) hx hb dX8_fill_60 hl (k := 5) rfl (by rw [en13]; rfl) (by decide) rfl (fun ls hl => ?_)
            refine lv_goto (tgt := 24) hx hb dX8_fill_63 (by decide) ?_
            exact ih x1 x2 x3 n13 g5 g10 _ _ _ o h hP hS (lv_sub hl [2, 3, 4, 5, 0] rfl) K
          · replace h := if_f c12 h
            refine lv_iload hx hb dX8_fill_54 (lv_at hl 5 rfl) ?_
            refine lv_istore_n (lv' := [(2, .int x4), (5, .int r4), (0, .ref qt), (1, .int x1), (3, .int x3), (4, .int x4)]) hx hb dX8_fill_56 rfl hl (by decide) rfl (fun ls hl => ?_)
            refine lv_iload hx hb dX8_fill_57 (lv_at hl 1 rfl) ?_
            refine lv_istore_n (lv' := [(3, .int r4), (2, .int x4), (5, .int r4), (0, .ref qt), (1, .int x1), (4, .int x4)]) hx hb dX8_fill_59 rfl hl (by decide) rfl (fun ls hl => ?_)
            obtain ⟨n14, en14⟩ : ∃ z : Int32, z = x4 + 1 := ⟨_, rfl⟩
            replace h := lt_at en14 h
            refine lv_iinc (v := n14) (lv' := [(4, .int n14), (3, .int r4), (2, .int x4), (5, .int r4), (0, .ref qt), (1, .int x1)]) hx hb dX8_fill_60 hl (k := 5) rfl (by rw [en14]; rfl) (by decide) rfl (fun ls hl => ?_)
            refine lv_goto (tgt := 24) hx hb dX8_fill_63 (by decide) ?_
            exact ih x1 x4 r4 n14 g5 g10 _ _ _ o h hP hS (lv_sub hl [4, 5, 2, 1, 0] rfl) K
  unfold fX8_fill at h
  refine lv_iload_n hx hb dX8_fill_0 rfl (lv_at hl 1 rfl) ?_
  refine lv_iconst (v := (-1)) hx hb dX8_fill_1 (by decide) ?_
  refine lv_icmp_eq (tgt := 16) hx hb dX8_fill_2 (by decide) (fun c15 => ?_) (fun c15 => ?_)
  · replace h := if_t c15 h
    refine lv_iconst (v := (-1)) hx hb dX8_fill_16 (by decide) ?_
    refine lv_istore_n (lv' := [(2, .int (-1)), (0, .ref qt), (1, .int x1)]) hx hb dX8_fill_17 rfl hl (by decide) rfl (fun ls hl => ?_)
    refine lv_bipush (v := 6) hx hb dX8_fill_18 (by decide) ?_
    refine lv_istore_n (lv' := [(3, .int 6), (2, .int (-1)), (0, .ref qt), (1, .int x1)]) hx hb dX8_fill_20 rfl hl (by decide) rfl (fun ls hl => ?_)
    refine lv_iconst (v := 0) hx hb dX8_fill_21 (by decide) ?_
    refine lv_istore (lv' := [(4, .int 0), (3, .int 6), (2, .int (-1)), (0, .ref qt), (1, .int x1)]) hx hb dX8_fill_22 hl (by decide) rfl (fun ls hl => ?_)
    replace h := bd_el h
    obtain ⟨o16, ho16, h⟩ := h
    refine lp24 N x1 (-1) 6 0 ft_of ft_w _ _ _ o16 ho16 hP hS (lv_sub hl [3, 4, 2, 1, 0] rfl) (fun n17 g18 g19 eo H locs ls hP hS hl => ?_)
    subst eo
    refine lv_iload_n hx hb dX8_fill_66 rfl (lv_at hl 2 rfl) ?_
    refine lv_if_ge (tgt := 72) hx hb dX8_fill_67 (by decide) (fun c20 => ?_) (fun c20 => ?_)
    · replace h := if_t c20 h
      refine lv_aload_n hx hb dX8_fill_72 rfl (lv_at hl 0 rfl) ?_
      refine lv_iload_n hx hb dX8_fill_73 rfl (lv_at hl 2 rfl) ?_
      replace h := bd_el h
      obtain ⟨⟨r21, g22⟩, hc23, h⟩ := h
      refine callVI (rest := []) ⟨hx, hb, hml, hown, hts⟩ (ctX8_layRow l D cI cZ cB cS kK kV _ qt qt_w qt_isKept qt_value qt_weight qt_newTube qt_newPrice qt_newLow qt_newHigh qt_newGoods qt_rhythm qt_rhythmLong qt_slug qt_text qt_of qt_buyerColumn qt_buyerKind qt_buyerCoins qt_tryRow qt_tryLong qt_tryFree it_kinds it_columns it_slugs it_newKinds it_newColumns it_newSlugs it_rhythmTold it_textSize it_at it_first it_length it_faultOf it_fault it_buyerMany it_tryMany g18 n17 N r21 g22 hc23) (cwV 1 hts gX8_fill_X8_layRow rfl rfl rfl hdX8_layRow ⟨Nat.le_of_ble_eq_true rfl, Nat.le_of_ble_eq_true rfl⟩) hK hN hX hP (dF hD rfl) hS hA [0, 1] (mcC rfl (mcC rfl mcN)) (by decide +kernel) [(qt, .inr (8, [.ref qt_w, .ref qt_isKept, .ref qt_value, .ref qt_weight, .ref qt_newTube, .ref qt_newPrice, .ref qt_newLow, .ref qt_newHigh, .ref qt_newGoods, .ref qt_rhythm, .ref qt_rhythmLong, .ref qt_slug, .int it_kinds, .int it_columns, .int it_slugs, .int it_newKinds, .int it_newColumns, .int it_newSlugs, .int it_rhythmTold, .ref qt_text, .int it_textSize, .int it_at, .int it_first, .int it_length, .int it_faultOf, .int it_fault, .ref qt_of, .ref qt_buyerColumn, .ref qt_buyerKind, .ref qt_buyerCoins, .int it_buyerMany, .ref qt_tryRow, .ref qt_tryLong, .ref qt_tryFree, .int it_tryMany])), (qt_of, .inl (cI, 5, .inl g22)), (qt_w, .inl (cI, 240, .inl g19)), (qt_buyerColumn, .inl (cI, 8, .inl ft_buyerColumn)), (qt_buyerKind, .inl (cI, 8, .inl ft_buyerKind)), (qt_buyerCoins, .inl (cI, 8, .inl ft_buyerCoins)), (qt_weight, .inl (cI, 10, .inl ft_weight)), (qt_value, .inl (cI, 10, .inl ft_value))] [2, 3, 4, 5, 6, 7] (mcC rfl (mcC rfl mcN)) ((mcC rfl (mcC rfl (mcC rfl (mcC rfl (mcC rfl (mcC rfl mcN)))))).trans (mcC rfl (mcC rfl (mcC rfl (mcC rfl (mcC rfl (mcC rfl mcN)))))).symm) 8 rfl (by decide +kernel) (va_recv hK hP (ci := 8) (q0 := 0) rfl rfl) rfl hl.1 rfl (Nat.le_of_ble_eq_true rfl) ⟨Nat.zero_le _, Nat.zero_le _⟩ dX8_fill_74 (fun H locs hP hS => ?_)
      refine lv_istore_n (lv' := [(3, .int r21), (0, .ref qt), (1, .int x1), (2, .int n17)]) hx hb dX8_fill_77 rfl hl (by decide) rfl (fun ls hl => ?_)
      refine lv_iload_n hx hb dX8_fill_78 rfl (lv_at hl 2 rfl) ?_
      refine lv_if_ge (tgt := 86) hx hb dX8_fill_79 (by decide) (fun c24 => ?_) (fun c24 => ?_)
      · replace h := if_t c24 h
        refine lv_aload_n hx hb dX8_fill_86 rfl (lv_at hl 1 rfl) ?_
        refine va_get (ci := 8) (v := .ref qt_of) (C := RX8) (T := TX8) (N := 35) hx hb hts hiX8 hown hK hP 0 rfl rfl 26 (by decide) fl54 (fun _ h9 => h9) rfl dX8_fill_87 ?_
        refine lv_iload_n hx hb dX8_fill_90 rfl (lv_at hl 2 rfl) ?_
        replace h := ck_el h
        obtain ⟨hi25, h⟩ := h
        refine va_iald hx hb hK hP 1 0 rfl rfl hi25 dX8_fill_91 ?_
        refine lv_topi (fun n26 en26 => ?_)
        replace h := lt_at en26 h
        simp only [Option.some.injEq, Prod.mk.injEq] at h
        obtain ⟨rfl, rfl, rfl⟩ := h
        exact hret _ _ _ _ hP hS rfl dX8_fill_92
      · replace h := if_f c24 h
        refine lv_iload_n hx hb dX8_fill_82 rfl (lv_at hl 0 rfl) ?_
        refine lv_goto (tgt := 92) hx hb dX8_fill_83 (by decide) ?_
        simp only [Option.some.injEq, Prod.mk.injEq] at h
        obtain ⟨rfl, rfl, rfl⟩ := h
        exact hret _ _ _ _ hP hS rfl dX8_fill_92
    · replace h := if_f c20 h
      refine lv_iconst (v := (-1)) hx hb dX8_fill_70 (by decide) ?_
      simp only [Option.some.injEq, Prod.mk.injEq] at h
      obtain ⟨rfl, rfl, rfl⟩ := h
      exact hret _ _ _ _ hP hS rfl dX8_fill_71
  · replace h := if_f c15 h
    refine lv_aload_n hx hb dX8_fill_5 rfl (lv_at hl 0 rfl) ?_
    refine lv_iload_n hx hb dX8_fill_6 rfl (lv_at hl 1 rfl) ?_
    replace h := bd_el h
    obtain ⟨r27, hc28, h⟩ := h
    refine callVI (rest := []) ⟨hx, hb, hml, hown, hts⟩ (ctX8_isKind l D cI cZ cB cS kK kV _ qt qt_w qt_isKept qt_value qt_weight qt_newTube qt_newPrice qt_newLow qt_newHigh qt_newGoods qt_rhythm qt_rhythmLong qt_slug qt_text qt_of qt_buyerColumn qt_buyerKind qt_buyerCoins qt_tryRow qt_tryLong qt_tryFree it_kinds it_columns it_slugs it_newKinds it_newColumns it_newSlugs it_rhythmTold it_textSize it_at it_first it_length it_faultOf it_fault it_buyerMany it_tryMany x1 N r27 hc28) (cwV 1 hts gX8_fill_X8_isKind rfl rfl rfl hdX8_isKind ⟨Nat.le_of_ble_eq_true rfl, Nat.le_of_ble_eq_true rfl⟩) hK hN hX hP (dF hD rfl) hS hA [0] (mcC rfl mcN) (by decide +kernel) [(qt, .inr (8, [.ref qt_w, .ref qt_isKept, .ref qt_value, .ref qt_weight, .ref qt_newTube, .ref qt_newPrice, .ref qt_newLow, .ref qt_newHigh, .ref qt_newGoods, .ref qt_rhythm, .ref qt_rhythmLong, .ref qt_slug, .int it_kinds, .int it_columns, .int it_slugs, .int it_newKinds, .int it_newColumns, .int it_newSlugs, .int it_rhythmTold, .ref qt_text, .int it_textSize, .int it_at, .int it_first, .int it_length, .int it_faultOf, .int it_fault, .ref qt_of, .ref qt_buyerColumn, .ref qt_buyerKind, .ref qt_buyerCoins, .int it_buyerMany, .ref qt_tryRow, .ref qt_tryLong, .ref qt_tryFree, .int it_tryMany])), (qt_of, .inl (cI, 5, .inl ft_of)), (qt_w, .inl (cI, 240, .inl ft_w)), (qt_buyerColumn, .inl (cI, 8, .inl ft_buyerColumn)), (qt_buyerKind, .inl (cI, 8, .inl ft_buyerKind)), (qt_buyerCoins, .inl (cI, 8, .inl ft_buyerCoins)), (qt_weight, .inl (cI, 10, .inl ft_weight)), (qt_value, .inl (cI, 10, .inl ft_value))] [1, 2, 3, 4, 5, 6, 7] (mcC rfl mcN) ((mcC rfl (mcC rfl (mcC rfl (mcC rfl (mcC rfl (mcC rfl (mcC rfl mcN))))))).trans (mcC rfl (mcC rfl (mcC rfl (mcC rfl (mcC rfl (mcC rfl (mcC rfl mcN))))))).symm) 8 rfl (by decide +kernel) (va_recv hK hP (ci := 8) (q0 := 0) rfl rfl) rfl hl.1 rfl (Nat.le_of_ble_eq_true rfl) ⟨Nat.zero_le _, Nat.zero_le _⟩ dX8_fill_7 (fun H locs hP hS => ?_)
    refine lv_if_ne (tgt := 16) hx hb dX8_fill_10 (by decide) (fun c29 => ?_) (fun c29 => ?_)
    · replace h := if_f c29 h
      refine lv_iconst (v := (-1)) hx hb dX8_fill_16 (by decide) ?_
      refine lv_istore_n (lv' := [(2, .int (-1)), (0, .ref qt), (1, .int x1)]) hx hb dX8_fill_17 rfl hl (by decide) rfl (fun ls hl => ?_)
      refine lv_bipush (v := 6) hx hb dX8_fill_18 (by decide) ?_
      refine lv_istore_n (lv' := [(3, .int 6), (2, .int (-1)), (0, .ref qt), (1, .int x1)]) hx hb dX8_fill_20 rfl hl (by decide) rfl (fun ls hl => ?_)
      refine lv_iconst (v := 0) hx hb dX8_fill_21 (by decide) ?_
      refine lv_istore (lv' := [(4, .int 0), (3, .int 6), (2, .int (-1)), (0, .ref qt), (1, .int x1)]) hx hb dX8_fill_22 hl (by decide) rfl (fun ls hl => ?_)
      replace h := bd_el h
      obtain ⟨o30, ho30, h⟩ := h
      refine lp24 N x1 (-1) 6 0 ft_of ft_w _ _ _ o30 ho30 hP hS (lv_sub hl [3, 4, 2, 1, 0] rfl) (fun n31 g32 g33 eo H locs ls hP hS hl => ?_)
      subst eo
      refine lv_iload_n hx hb dX8_fill_66 rfl (lv_at hl 2 rfl) ?_
      refine lv_if_ge (tgt := 72) hx hb dX8_fill_67 (by decide) (fun c34 => ?_) (fun c34 => ?_)
      · replace h := if_t c34 h
        refine lv_aload_n hx hb dX8_fill_72 rfl (lv_at hl 0 rfl) ?_
        refine lv_iload_n hx hb dX8_fill_73 rfl (lv_at hl 2 rfl) ?_
        replace h := bd_el h
        obtain ⟨⟨r35, g36⟩, hc37, h⟩ := h
        refine callVI (rest := []) ⟨hx, hb, hml, hown, hts⟩ (ctX8_layRow l D cI cZ cB cS kK kV _ qt qt_w qt_isKept qt_value qt_weight qt_newTube qt_newPrice qt_newLow qt_newHigh qt_newGoods qt_rhythm qt_rhythmLong qt_slug qt_text qt_of qt_buyerColumn qt_buyerKind qt_buyerCoins qt_tryRow qt_tryLong qt_tryFree it_kinds it_columns it_slugs it_newKinds it_newColumns it_newSlugs it_rhythmTold it_textSize it_at it_first it_length it_faultOf it_fault it_buyerMany it_tryMany g32 n31 N r35 g36 hc37) (cwV 1 hts gX8_fill_X8_layRow rfl rfl rfl hdX8_layRow ⟨Nat.le_of_ble_eq_true rfl, Nat.le_of_ble_eq_true rfl⟩) hK hN hX hP (dF hD rfl) hS hA [0, 1] (mcC rfl (mcC rfl mcN)) (by decide +kernel) [(qt, .inr (8, [.ref qt_w, .ref qt_isKept, .ref qt_value, .ref qt_weight, .ref qt_newTube, .ref qt_newPrice, .ref qt_newLow, .ref qt_newHigh, .ref qt_newGoods, .ref qt_rhythm, .ref qt_rhythmLong, .ref qt_slug, .int it_kinds, .int it_columns, .int it_slugs, .int it_newKinds, .int it_newColumns, .int it_newSlugs, .int it_rhythmTold, .ref qt_text, .int it_textSize, .int it_at, .int it_first, .int it_length, .int it_faultOf, .int it_fault, .ref qt_of, .ref qt_buyerColumn, .ref qt_buyerKind, .ref qt_buyerCoins, .int it_buyerMany, .ref qt_tryRow, .ref qt_tryLong, .ref qt_tryFree, .int it_tryMany])), (qt_of, .inl (cI, 5, .inl g36)), (qt_w, .inl (cI, 240, .inl g33)), (qt_buyerColumn, .inl (cI, 8, .inl ft_buyerColumn)), (qt_buyerKind, .inl (cI, 8, .inl ft_buyerKind)), (qt_buyerCoins, .inl (cI, 8, .inl ft_buyerCoins)), (qt_weight, .inl (cI, 10, .inl ft_weight)), (qt_value, .inl (cI, 10, .inl ft_value))] [2, 3, 4, 5, 6, 7] (mcC rfl (mcC rfl mcN)) ((mcC rfl (mcC rfl (mcC rfl (mcC rfl (mcC rfl (mcC rfl mcN)))))).trans (mcC rfl (mcC rfl (mcC rfl (mcC rfl (mcC rfl (mcC rfl mcN)))))).symm) 8 rfl (by decide +kernel) (va_recv hK hP (ci := 8) (q0 := 0) rfl rfl) rfl hl.1 rfl (Nat.le_of_ble_eq_true rfl) ⟨Nat.zero_le _, Nat.zero_le _⟩ dX8_fill_74 (fun H locs hP hS => ?_)
        refine lv_istore_n (lv' := [(3, .int r35), (0, .ref qt), (1, .int x1), (2, .int n31)]) hx hb dX8_fill_77 rfl hl (by decide) rfl (fun ls hl => ?_)
        refine lv_iload_n hx hb dX8_fill_78 rfl (lv_at hl 2 rfl) ?_
        refine lv_if_ge (tgt := 86) hx hb dX8_fill_79 (by decide) (fun c38 => ?_) (fun c38 => ?_)
        · replace h := if_t c38 h
          refine lv_aload_n hx hb dX8_fill_86 rfl (lv_at hl 1 rfl) ?_
          refine va_get (ci := 8) (v := .ref qt_of) (C := RX8) (T := TX8) (N := 35) hx hb hts hiX8 hown hK hP 0 rfl rfl 26 (by decide) fl54 (fun _ h9 => h9) rfl dX8_fill_87 ?_
          refine lv_iload_n hx hb dX8_fill_90 rfl (lv_at hl 2 rfl) ?_
          replace h := ck_el h
          obtain ⟨hi39, h⟩ := h
          refine va_iald hx hb hK hP 1 0 rfl rfl hi39 dX8_fill_91 ?_
          refine lv_topi (fun n40 en40 => ?_)
          replace h := lt_at en40 h
          simp only [Option.some.injEq, Prod.mk.injEq] at h
          obtain ⟨rfl, rfl, rfl⟩ := h
          exact hret _ _ _ _ hP hS rfl dX8_fill_92
        · replace h := if_f c38 h
          refine lv_iload_n hx hb dX8_fill_82 rfl (lv_at hl 0 rfl) ?_
          refine lv_goto (tgt := 92) hx hb dX8_fill_83 (by decide) ?_
          simp only [Option.some.injEq, Prod.mk.injEq] at h
          obtain ⟨rfl, rfl, rfl⟩ := h
          exact hret _ _ _ _ hP hS rfl dX8_fill_92
      · replace h := if_f c34 h
        refine lv_iconst (v := (-1)) hx hb dX8_fill_70 (by decide) ?_
        simp only [Option.some.injEq, Prod.mk.injEq] at h
        obtain ⟨rfl, rfl, rfl⟩ := h
        exact hret _ _ _ _ hP hS rfl dX8_fill_71
    · replace h := if_t c29 h
      refine lv_ldc (v := (-1000000001)) hx hb hown cn193 dX8_fill_13 ?_
      simp only [Option.some.injEq, Prod.mk.injEq] at h
      obtain ⟨rfl, rfl, rfl⟩ := h
      exact hret _ _ _ _ hP hS rfl dX8_fill_15
theorem hdX8_fill : yX8_fill.cls = RX8 ∧ yX8_fill.cls ≠ "java/lang/invoke/MethodHandle" ∧ yX8_fill.cls ≠ "java/lang/invoke/VarHandle" ∧ (parseMethodDescriptor yX8_fill.desc).map (fun d => d.parameters.length) = some 1 := by decide +kernel

noncomputable def fX8_shortOn_L9 (N : Nat) : Nat → Int32 → Int32 → Int32 → (Nat → Int32) → (Nat → Int32) → (Nat → Int32) → (Nat → Int32) → (Nat → Int32) → (Nat → Int32) → Option ((Nat → Int32) ⊕ (Int32 × (Nat → Int32)))
  | 0, _, _, _, _, _, _, _, _, _ => none
  | k + 1, x1, it_kinds, it_buyerMany, ft_buyerColumn, ft_buyerKind, ft_buyerCoins, ft_w, ft_weight, ft_value => (if 99 < x1 then some (.inl ft_w) else bd (fX8_come N it_kinds it_buyerMany ft_buyerColumn ft_buyerKind ft_buyerCoins ft_w ft_weight ft_value 255) fun (r2, g3) => (if 0 ≤ r2 then lt (x1 + 1) fun n6 => fX8_shortOn_L9 N k n6 it_kinds it_buyerMany ft_buyerColumn ft_buyerKind ft_buyerCoins g3 ft_weight ft_value else some (.inr (x1, g3))))
theorem fX8_shortOn_L9_s (N : Nat) (k : Nat) (x1 : Int32) (it_kinds : Int32) (it_buyerMany : Int32) (ft_buyerColumn : Nat → Int32) (ft_buyerKind : Nat → Int32) (ft_buyerCoins : Nat → Int32) (ft_w : Nat → Int32) (ft_weight : Nat → Int32) (ft_value : Nat → Int32) : fX8_shortOn_L9 N (k + 1) x1 it_kinds it_buyerMany ft_buyerColumn ft_buyerKind ft_buyerCoins ft_w ft_weight ft_value = ((if 99 < x1 then some (.inl ft_w) else bd (fX8_come N it_kinds it_buyerMany ft_buyerColumn ft_buyerKind ft_buyerCoins ft_w ft_weight ft_value 255) fun (r2, g3) => (if 0 ≤ r2 then lt (x1 + 1) fun n6 => fX8_shortOn_L9 N k n6 it_kinds it_buyerMany ft_buyerColumn ft_buyerKind ft_buyerCoins g3 ft_weight ft_value else some (.inr (x1, g3))))) := rfl
noncomputable def fX8_shortOn (N : Nat) (it_kinds : Int32) (it_buyerMany : Int32) (ft_buyerColumn : Nat → Int32) (ft_buyerKind : Nat → Int32) (ft_buyerCoins : Nat → Int32) (ft_w : Nat → Int32) (ft_weight : Nat → Int32) (ft_value : Nat → Int32) : Option (Int32 × (Nat → Int32)) := bd (fX8_copy N ft_w 0 60) fun g7 => bd (fX8_shortOn_L9 N N 1 it_kinds it_buyerMany ft_buyerColumn ft_buyerKind ft_buyerCoins g7 ft_weight ft_value) fun o => match o with | .inr rr => some rr | .inl g10 => some ((-1), g10)
set_option maxHeartbeats 4000000 in
set_option maxRecDepth 100000 in
theorem ctX8_shortOn (l : Launch) (D : va_G) (cI cZ cB cS : ClassId) (kK kV : Nat → Nat) (sz : Nat) (qt qt_w qt_isKept qt_value qt_weight qt_newTube qt_newPrice qt_newLow qt_newHigh qt_newGoods qt_rhythm qt_rhythmLong qt_slug qt_text qt_of qt_buyerColumn qt_buyerKind qt_buyerCoins qt_tryRow qt_tryLong qt_tryFree : Nat) (it_kinds : Int32) (it_columns : Int32) (it_slugs : Int32) (it_newKinds : Int32) (it_newColumns : Int32) (it_newSlugs : Int32) (it_rhythmTold : Int32) (it_textSize : Int32) (it_at : Int32) (it_first : Int32) (it_length : Int32) (it_faultOf : Int32) (it_fault : Int32) (it_buyerMany : Int32) (it_tryMany : Int32) (ft_buyerColumn : Nat → Int32) (ft_buyerKind : Nat → Int32) (ft_buyerCoins : Nat → Int32) (ft_w : Nat → Int32) (ft_weight : Nat → Int32) (ft_value : Nat → Int32)  (N : Nat) (r0 : Int32) (w_ft_w : Nat → Int32) (h : fX8_shortOn N it_kinds it_buyerMany ft_buyerColumn ft_buyerKind ft_buyerCoins ft_w ft_weight ft_value = some (r0, w_ft_w)) : CtI l yX8_shortOn wsX8_shortOn { frames := 5, cells := 0, slots := 0, locals := 119 } D (TY cI cZ cB cS) kK kV [.ref qt] [(qt, .inr (8, [.ref qt_w, .ref qt_isKept, .ref qt_value, .ref qt_weight, .ref qt_newTube, .ref qt_newPrice, .ref qt_newLow, .ref qt_newHigh, .ref qt_newGoods, .ref qt_rhythm, .ref qt_rhythmLong, .ref qt_slug, .int it_kinds, .int it_columns, .int it_slugs, .int it_newKinds, .int it_newColumns, .int it_newSlugs, .int it_rhythmTold, .ref qt_text, .int it_textSize, .int it_at, .int it_first, .int it_length, .int it_faultOf, .int it_fault, .ref qt_of, .ref qt_buyerColumn, .ref qt_buyerKind, .ref qt_buyerCoins, .int it_buyerMany, .ref qt_tryRow, .ref qt_tryLong, .ref qt_tryFree, .int it_tryMany])), (qt_buyerColumn, .inl (cI, 8, .inl ft_buyerColumn)), (qt_buyerKind, .inl (cI, 8, .inl ft_buyerKind)), (qt_buyerCoins, .inl (cI, 8, .inl ft_buyerCoins)), (qt_w, .inl (cI, 240, .inl ft_w)), (qt_weight, .inl (cI, 10, .inl ft_weight)), (qt_value, .inl (cI, 10, .inl ft_value))] [(qt, .inr (8, [.ref qt_w, .ref qt_isKept, .ref qt_value, .ref qt_weight, .ref qt_newTube, .ref qt_newPrice, .ref qt_newLow, .ref qt_newHigh, .ref qt_newGoods, .ref qt_rhythm, .ref qt_rhythmLong, .ref qt_slug, .int it_kinds, .int it_columns, .int it_slugs, .int it_newKinds, .int it_newColumns, .int it_newSlugs, .int it_rhythmTold, .ref qt_text, .int it_textSize, .int it_at, .int it_first, .int it_length, .int it_faultOf, .int it_fault, .ref qt_of, .ref qt_buyerColumn, .ref qt_buyerKind, .ref qt_buyerCoins, .int it_buyerMany, .ref qt_tryRow, .ref qt_tryLong, .ref qt_tryFree, .int it_tryMany])), (qt_buyerColumn, .inl (cI, 8, .inl ft_buyerColumn)), (qt_buyerKind, .inl (cI, 8, .inl ft_buyerKind)), (qt_buyerCoins, .inl (cI, 8, .inl ft_buyerCoins)), (qt_w, .inl (cI, 240, .inl w_ft_w)), (qt_weight, .inl (cI, 10, .inl ft_weight)), (qt_value, .inl (cI, 10, .inl ft_value))] sz r0 := by
  refine mkI (cc := cX8_shortOn) (maxL := 2) (rt := .int) (own := RX8) (by decide) rfl rfl (Nat.le_of_ble_eq_true rfl) ?_
  intro p e s m args below meth c A Z ls hx hb hml hown hts hK hN hX hP hD hA hS hret hl
  have hl : lv_has ls 2 [(0, .ref qt)] := hl
  have lp9 : ∀ (k : Nat) (x1 : Int32) (ft_w : Nat → Int32) (H : Heap) (locs : List Loc) (ls : Array Slot) (o : (Nat → Int32) ⊕ (Int32 × (Nat → Int32))), fX8_shortOn_L9 N k x1 it_kinds it_buyerMany ft_buyerColumn ft_buyerKind ft_buyerCoins ft_w ft_weight ft_value = some o → va_P D vwCl [(qt, .inr (8, [.ref qt_w, .ref qt_isKept, .ref qt_value, .ref qt_weight, .ref qt_newTube, .ref qt_newPrice, .ref qt_newLow, .ref qt_newHigh, .ref qt_newGoods, .ref qt_rhythm, .ref qt_rhythmLong, .ref qt_slug, .int it_kinds, .int it_columns, .int it_slugs, .int it_newKinds, .int it_newColumns, .int it_newSlugs, .int it_rhythmTold, .ref qt_text, .int it_textSize, .int it_at, .int it_first, .int it_length, .int it_faultOf, .int it_fault, .ref qt_of, .ref qt_buyerColumn, .ref qt_buyerKind, .ref qt_buyerCoins, .int it_buyerMany, .ref qt_tryRow, .ref qt_tryLong, .ref qt_tryFree, .int it_tryMany])), (qt_buyerColumn, .inl (cI, 8, .inl ft_buyerColumn)), (qt_buyerKind, .inl (cI, 8, .inl ft_buyerKind)), (qt_buyerCoins, .inl (cI, 8, .inl ft_buyerCoins)), (qt_w, .inl (cI, 240, .inl ft_w)), (qt_weight, .inl (cI, 10, .inl ft_weight)), (qt_value, .inl (cI, 10, .inl ft_value))] H → va_S A s.heap H locs → lv_has ls 2 [(0, .ref qt), (1, .int x1)] → (∀ rr, .inr rr = o → rr = (r0, w_ft_w)) → (∀ (e_ft_w : Nat → Int32), .inl e_ft_w = o → ∀ (H : Heap) (locs : List Loc) (ls : Array Slot), va_P D vwCl [(qt, .inr (8, [.ref qt_w, .ref qt_isKept, .ref qt_value, .ref qt_weight, .ref qt_newTube, .ref qt_newPrice, .ref qt_newLow, .ref qt_newHigh, .ref qt_newGoods, .ref qt_rhythm, .ref qt_rhythmLong, .ref qt_slug, .int it_kinds, .int it_columns, .int it_slugs, .int it_newKinds, .int it_newColumns, .int it_newSlugs, .int it_rhythmTold, .ref qt_text, .int it_textSize, .int it_at, .int it_first, .int it_length, .int it_faultOf, .int it_fault, .ref qt_of, .ref qt_buyerColumn, .ref qt_buyerKind, .ref qt_buyerCoins, .int it_buyerMany, .ref qt_tryRow, .ref qt_tryLong, .ref qt_tryFree, .int it_tryMany])), (qt_buyerColumn, .inl (cI, 8, .inl ft_buyerColumn)), (qt_buyerKind, .inl (cI, 8, .inl ft_buyerKind)), (qt_buyerCoins, .inl (cI, 8, .inl ft_buyerCoins)), (qt_w, .inl (cI, 240, .inl e_ft_w)), (qt_weight, .inl (cI, 10, .inl ft_weight)), (qt_value, .inl (cI, 10, .inl ft_value))] H → va_S A s.heap H locs → lv_has ls 2 [] → W p l e ({ frames := 5, cells := 0, slots := 0, locals := 119 } : Room) s m args below meth c H locs 0 0 Z (F0 m 33 ls [])) → W p l e ({ frames := 5, cells := 0, slots := 0, locals := 119 } : Room) s m args below meth c H locs 0 0 Z (F0 m 9 ls []) := by
    intro k
    induction k with
    | zero =>
      intro x1 ft_w H locs ls o h
      exact nomatch (show (none : Option ((Nat → Int32) ⊕ (Int32 × (Nat → Int32)))) = some o from h)
    | succ k ih =>
      intro x1 ft_w H locs ls o h hP hS hl KR K
      rw [fX8_shortOn_L9_s] at h
      refine lv_iload_n hx hb dX8_shortOn_9 rfl (lv_at hl 1 rfl) ?_
      refine lv_bipush (v := 99) hx hb dX8_shortOn_10 (by decide) ?_
      refine lv_icmp_gt (tgt := 33) hx hb dX8_shortOn_12 (by decide) (fun c1 => ?_) (fun c1 => ?_)
      · replace h := if_t c1 h
        exact K ft_w (Option.some.inj h) _ _ _ hP hS (lv_sub hl [] rfl)
      · replace h := if_f c1 h
        refine lv_aload_n hx hb dX8_shortOn_15 rfl (lv_at hl 0 rfl) ?_
        refine lv_sipush (v := 255) hx hb dX8_shortOn_16 (by decide) ?_
        replace h := bd_el h
        obtain ⟨⟨r2, g3⟩, hc4, h⟩ := h
        refine callVI (rest := []) ⟨hx, hb, hml, hown, hts⟩ (ctX8_come l D cI cZ cB cS kK kV _ qt qt_w qt_isKept qt_value qt_weight qt_newTube qt_newPrice qt_newLow qt_newHigh qt_newGoods qt_rhythm qt_rhythmLong qt_slug qt_text qt_of qt_buyerColumn qt_buyerKind qt_buyerCoins qt_tryRow qt_tryLong qt_tryFree it_kinds it_columns it_slugs it_newKinds it_newColumns it_newSlugs it_rhythmTold it_textSize it_at it_first it_length it_faultOf it_fault it_buyerMany it_tryMany ft_buyerColumn ft_buyerKind ft_buyerCoins ft_w ft_weight ft_value 255 N r2 g3 hc4) (cwV 1 hts gX8_shortOn_X8_come rfl rfl rfl hdX8_come ⟨Nat.le_of_ble_eq_true rfl, Nat.le_of_ble_eq_true rfl⟩) hK hN hX hP (dF hD rfl) hS hA [0, 1, 2, 3, 4, 5, 6] (mcC rfl (mcC rfl (mcC rfl (mcC rfl (mcC rfl (mcC rfl (mcC rfl mcN))))))) (by decide +kernel) [(qt, .inr (8, [.ref qt_w, .ref qt_isKept, .ref qt_value, .ref qt_weight, .ref qt_newTube, .ref qt_newPrice, .ref qt_newLow, .ref qt_newHigh, .ref qt_newGoods, .ref qt_rhythm, .ref qt_rhythmLong, .ref qt_slug, .int it_kinds, .int it_columns, .int it_slugs, .int it_newKinds, .int it_newColumns, .int it_newSlugs, .int it_rhythmTold, .ref qt_text, .int it_textSize, .int it_at, .int it_first, .int it_length, .int it_faultOf, .int it_fault, .ref qt_of, .ref qt_buyerColumn, .ref qt_buyerKind, .ref qt_buyerCoins, .int it_buyerMany, .ref qt_tryRow, .ref qt_tryLong, .ref qt_tryFree, .int it_tryMany])), (qt_buyerColumn, .inl (cI, 8, .inl ft_buyerColumn)), (qt_buyerKind, .inl (cI, 8, .inl ft_buyerKind)), (qt_buyerCoins, .inl (cI, 8, .inl ft_buyerCoins)), (qt_w, .inl (cI, 240, .inl g3)), (qt_weight, .inl (cI, 10, .inl ft_weight)), (qt_value, .inl (cI, 10, .inl ft_value))] [] (mcC rfl (mcC rfl (mcC rfl (mcC rfl (mcC rfl (mcC rfl (mcC rfl mcN))))))) (mcN.trans mcN.symm) 7 rfl (by decide +kernel) (va_recv hK hP (ci := 8) (q0 := 0) rfl rfl) rfl hl.1 rfl (Nat.le_of_ble_eq_true rfl) ⟨Nat.zero_le _, Nat.zero_le _⟩ dX8_shortOn_19 (fun H locs hP hS => ?_)
        refine lv_if_ge (tgt := 27) hx hb dX8_shortOn_22 (by decide) (fun c5 => ?_) (fun c5 => ?_)
        · replace h := if_t c5 h
          obtain ⟨n6, en6⟩ : ∃ z : Int32, z = x1 + 1 := ⟨_, rfl⟩
          replace h := lt_at en6 h
          refine lv_iinc (v := n6) (lv' := [(1, .int n6), (0, .ref qt)]) hx hb dX8_shortOn_27 hl (k := 1) rfl (by rw [en6]; rfl) (by decide) rfl (fun ls hl => ?_)
          refine lv_goto (tgt := 9) hx hb dX8_shortOn_30 (by decide) ?_
          exact ih n6 g3 _ _ _ o h hP hS (lv_sub hl [1, 0] rfl) KR K
        · replace h := if_f c5 h
          refine lv_iload_n hx hb dX8_shortOn_25 rfl (lv_at hl 1 rfl) ?_
          have hz9 := KR _ (Option.some.inj h)
          simp only [Prod.mk.injEq] at hz9
          obtain ⟨rfl, rfl⟩ := hz9
          exact hret _ _ _ _ hP hS rfl dX8_shortOn_26
  unfold fX8_shortOn at h
  refine lv_aload_n hx hb dX8_shortOn_0 rfl (lv_at hl 0 rfl) ?_
  refine lv_iconst (v := 0) hx hb dX8_shortOn_1 (by decide) ?_
  refine lv_bipush (v := 60) hx hb dX8_shortOn_2 (by decide) ?_
  replace h := bd_el h
  obtain ⟨g7, hc8, h⟩ := h
  refine callVV (rest := []) ⟨hx, hb, hml, hown, hts⟩ (ctX8_copy l D cI cZ cB cS kK kV _ qt qt_w qt_isKept qt_value qt_weight qt_newTube qt_newPrice qt_newLow qt_newHigh qt_newGoods qt_rhythm qt_rhythmLong qt_slug qt_text qt_of qt_buyerColumn qt_buyerKind qt_buyerCoins qt_tryRow qt_tryLong qt_tryFree it_kinds it_columns it_slugs it_newKinds it_newColumns it_newSlugs it_rhythmTold it_textSize it_at it_first it_length it_faultOf it_fault it_buyerMany it_tryMany ft_w 0 60 N g7 hc8) (cwV 2 hts gX8_shortOn_X8_copy rfl rfl rfl hdX8_copy ⟨Nat.le_of_ble_eq_true rfl, Nat.le_of_ble_eq_true rfl⟩) hK hN hX hP (dF hD rfl) hS hA [0, 4] (mcC rfl (mcC rfl mcN)) (by decide +kernel) [(qt, .inr (8, [.ref qt_w, .ref qt_isKept, .ref qt_value, .ref qt_weight, .ref qt_newTube, .ref qt_newPrice, .ref qt_newLow, .ref qt_newHigh, .ref qt_newGoods, .ref qt_rhythm, .ref qt_rhythmLong, .ref qt_slug, .int it_kinds, .int it_columns, .int it_slugs, .int it_newKinds, .int it_newColumns, .int it_newSlugs, .int it_rhythmTold, .ref qt_text, .int it_textSize, .int it_at, .int it_first, .int it_length, .int it_faultOf, .int it_fault, .ref qt_of, .ref qt_buyerColumn, .ref qt_buyerKind, .ref qt_buyerCoins, .int it_buyerMany, .ref qt_tryRow, .ref qt_tryLong, .ref qt_tryFree, .int it_tryMany])), (qt_buyerColumn, .inl (cI, 8, .inl ft_buyerColumn)), (qt_buyerKind, .inl (cI, 8, .inl ft_buyerKind)), (qt_buyerCoins, .inl (cI, 8, .inl ft_buyerCoins)), (qt_w, .inl (cI, 240, .inl g7)), (qt_weight, .inl (cI, 10, .inl ft_weight)), (qt_value, .inl (cI, 10, .inl ft_value))] [1, 2, 3, 5, 6] (mcC rfl (mcC rfl mcN)) ((mcC rfl (mcC rfl (mcC rfl (mcC rfl (mcC rfl mcN))))).trans (mcC rfl (mcC rfl (mcC rfl (mcC rfl (mcC rfl mcN))))).symm) 7 rfl (by decide +kernel) (va_recv hK hP (ci := 8) (q0 := 0) rfl rfl) rfl hl.1 rfl (Nat.le_of_ble_eq_true rfl) ⟨Nat.zero_le _, Nat.zero_le _⟩ dX8_shortOn_4 (fun H locs hP hS => ?_)
  refine lv_iconst (v := 1) hx hb dX8_shortOn_7 (by decide) ?_
  refine lv_istore_n (lv' := [(1, .int 1), (0, .ref qt)]) hx hb dX8_shortOn_8 rfl hl (by decide) rfl (fun ls hl => ?_)
  replace h := bd_el h
  obtain ⟨o9, ho9, h⟩ := h
  refine lp9 N 1 g7 _ _ _ o9 ho9 hP hS (lv_sub hl [1, 0] rfl) (fun rr er => by subst er; exact Option.some.inj h) (fun g10 eo H locs ls hP hS hl => ?_)
  subst eo
  dsimp only at h
  refine lv_iconst (v := (-1)) hx hb dX8_shortOn_33 (by decide) ?_
  simp only [Option.some.injEq, Prod.mk.injEq] at h
  obtain ⟨rfl, rfl⟩ := h
  exact hret _ _ _ _ hP hS rfl dX8_shortOn_34
theorem hdX8_shortOn : yX8_shortOn.cls = RX8 ∧ yX8_shortOn.cls ≠ "java/lang/invoke/MethodHandle" ∧ yX8_shortOn.cls ≠ "java/lang/invoke/VarHandle" ∧ (parseMethodDescriptor yX8_shortOn.desc).map (fun d => d.parameters.length) = some 0 := by decide +kernel
