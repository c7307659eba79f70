noncomputable def fX8_canBe_L5 (N : Nat) : Nat → Int32 → Int32 → Int32 → Int32 → Int32 → (Nat → Int32) → (Nat → Int32) → (Nat → Int32) → Option (Int32)
  | 0, _, _, _, _, _, _, _, _ => none
  | k + 1, x1, x2, x3, x4, it_tryMany, ft_tryLong, ft_tryRow, ft_tryFree => (if it_tryMany ≤ x4 then some x3 else (if x3 = 0 then lt (x4 + 1) fun n3 => fX8_canBe_L5 N k x1 x2 0 n3 it_tryMany ft_tryLong ft_tryRow ft_tryFree else bd (fX8_freeAt N ft_tryLong ft_tryRow x4 x1 x2) fun r4 => ck x4 10 ((if (ft_tryFree (Int32.toNatClampNeg x4)) = 0 then (if r4 = (-1) then lt (x4 + 1) fun n10 => fX8_canBe_L5 N k x1 x2 1 n10 it_tryMany ft_tryLong ft_tryRow ft_tryFree else lt (x4 + 1) fun n9 => fX8_canBe_L5 N k x1 x2 0 n9 it_tryMany ft_tryLong ft_tryRow ft_tryFree) else (if r4 = ((ft_tryLong (Int32.toNatClampNeg x4)) - 1) then lt (x4 + 1) fun n13 => fX8_canBe_L5 N k x1 x2 1 n13 it_tryMany ft_tryLong ft_tryRow ft_tryFree else lt (x4 + 1) fun n12 => fX8_canBe_L5 N k x1 x2 0 n12 it_tryMany ft_tryLong ft_tryRow ft_tryFree)))))
theorem fX8_canBe_L5_s (N : Nat) (k : Nat) (x1 : Int32) (x2 : Int32) (x3 : Int32) (x4 : Int32) (it_tryMany : Int32) (ft_tryLong : Nat → Int32) (ft_tryRow : Nat → Int32) (ft_tryFree : Nat → Int32) : fX8_canBe_L5 N (k + 1) x1 x2 x3 x4 it_tryMany ft_tryLong ft_tryRow ft_tryFree = ((if it_tryMany ≤ x4 then some x3 else (if x3 = 0 then lt (x4 + 1) fun n3 => fX8_canBe_L5 N k x1 x2 0 n3 it_tryMany ft_tryLong ft_tryRow ft_tryFree else bd (fX8_freeAt N ft_tryLong ft_tryRow x4 x1 x2) fun r4 => ck x4 10 ((if (ft_tryFree (Int32.toNatClampNeg x4)) = 0 then (if r4 = (-1) then lt (x4 + 1) fun n10 => fX8_canBe_L5 N k x1 x2 1 n10 it_tryMany ft_tryLong ft_tryRow ft_tryFree else lt (x4 + 1) fun n9 => fX8_canBe_L5 N k x1 x2 0 n9 it_tryMany ft_tryLong ft_tryRow ft_tryFree) else (if r4 = ((ft_tryLong (Int32.toNatClampNeg x4)) - 1) then lt (x4 + 1) fun n13 => fX8_canBe_L5 N k x1 x2 1 n13 it_tryMany ft_tryLong ft_tryRow ft_tryFree else lt (x4 + 1) fun n12 => fX8_canBe_L5 N k x1 x2 0 n12 it_tryMany ft_tryLong ft_tryRow ft_tryFree)))))) := rfl
noncomputable def fX8_canBe (N : Nat) (it_tryMany : Int32) (ft_tryLong : Nat → Int32) (ft_tryRow : Nat → Int32) (ft_tryFree : Nat → Int32) (x1 : Int32) (x2 : Int32) : Option (Int32) := bd (fX8_canBe_L5 N N x1 x2 1 0 it_tryMany ft_tryLong ft_tryRow ft_tryFree) fun n15 => bl n15 (some n15)
set_option maxHeartbeats 4000000 in
set_option maxRecDepth 100000 in
theorem ctX8_canBe (l : Launch) (D : va_G) (cI cZ cB cS : ClassId) (kK kV : Nat → Nat) (sz : Nat) (qt qt_w qt_isKept qt_value qt_weight qt_newTube qt_newPrice qt_newLow qt_newHigh qt_newGoods qt_rhythm qt_rhythmLong qt_slug qt_text qt_of qt_buyerColumn qt_buyerKind qt_buyerCoins qt_tryRow qt_tryLong qt_tryFree : Nat) (it_kinds : Int32) (it_columns : Int32) (it_slugs : Int32) (it_newKinds : Int32) (it_newColumns : Int32) (it_newSlugs : Int32) (it_rhythmTold : Int32) (it_textSize : Int32) (it_at : Int32) (it_first : Int32) (it_length : Int32) (it_faultOf : Int32) (it_fault : Int32) (it_buyerMany : Int32) (it_tryMany : Int32) (ft_tryLong : Nat → Int32) (ft_tryRow : Nat → Int32) (ft_tryFree : Nat → Int32) (x1 : Int32) (x2 : Int32) (N : Nat) (r0 : Int32)  (h : fX8_canBe N it_tryMany ft_tryLong ft_tryRow ft_tryFree x1 x2 = some r0) : CtI l yX8_canBe wsX8_canBe { frames := 1, cells := 0, slots := 0, locals := 24 } D (TY cI cZ cB cS) kK kV [.ref qt, .int x1, .int x2] [(qt, .inr (8, [.ref qt_w, .ref qt_isKept, .ref qt_value, .ref qt_weight, .ref qt_newTube, .ref qt_newPrice, .ref qt_newLow, .ref qt_newHigh, .ref qt_newGoods, .ref qt_rhythm, .ref qt_rhythmLong, .ref qt_slug, .int it_kinds, .int it_columns, .int it_slugs, .int it_newKinds, .int it_newColumns, .int it_newSlugs, .int it_rhythmTold, .ref qt_text, .int it_textSize, .int it_at, .int it_first, .int it_length, .int it_faultOf, .int it_fault, .ref qt_of, .ref qt_buyerColumn, .ref qt_buyerKind, .ref qt_buyerCoins, .int it_buyerMany, .ref qt_tryRow, .ref qt_tryLong, .ref qt_tryFree, .int it_tryMany])), (qt_tryLong, .inl (cI, 10, .inl ft_tryLong)), (qt_tryRow, .inl (cI, 10, .inl ft_tryRow)), (qt_tryFree, .inl (cZ, 10, .inl ft_tryFree))] [(qt, .inr (8, [.ref qt_w, .ref qt_isKept, .ref qt_value, .ref qt_weight, .ref qt_newTube, .ref qt_newPrice, .ref qt_newLow, .ref qt_newHigh, .ref qt_newGoods, .ref qt_rhythm, .ref qt_rhythmLong, .ref qt_slug, .int it_kinds, .int it_columns, .int it_slugs, .int it_newKinds, .int it_newColumns, .int it_newSlugs, .int it_rhythmTold, .ref qt_text, .int it_textSize, .int it_at, .int it_first, .int it_length, .int it_faultOf, .int it_fault, .ref qt_of, .ref qt_buyerColumn, .ref qt_buyerKind, .ref qt_buyerCoins, .int it_buyerMany, .ref qt_tryRow, .ref qt_tryLong, .ref qt_tryFree, .int it_tryMany])), (qt_tryLong, .inl (cI, 10, .inl ft_tryLong)), (qt_tryRow, .inl (cI, 10, .inl ft_tryRow)), (qt_tryFree, .inl (cZ, 10, .inl ft_tryFree))] sz r0 := by
  refine mkI (cc := cX8_canBe) (maxL := 5) (rt := .boolean) (own := RX8) (by decide) rfl rfl (Nat.le_of_ble_eq_true rfl) ?_
  intro p e s m args below meth c A Z ls hx hb hml hown hts hK hN hX hP hD hA hS hret hl
  have hl : lv_has ls 5 [(0, .ref qt), (1, .int x1), (2, .int x2)] := hl
  have fl176 : (Cond.fieldLink RX8 176 "SoupWallModel" "tryMany" "I").before args s = true := hts _ (List.mem_of_getElem? (l := wsX8_canBe) (i := 1) rfl)
  have hiX8 : ∀ w ∈ wsX80, w ∈ wsX8_canBe := fun w h => List.mem_cons_of_mem _ (List.mem_append_right _ h)
  have fl72 : (Cond.fieldLink RX8 72 "SoupWallModel" "tryFree" "[Z").before args s = true := hts _ (List.mem_of_getElem? (l := wsX8_canBe) (i := 2) rfl)
  have fl69 : (Cond.fieldLink RX8 69 "SoupWallModel" "tryLong" "[I").before args s = true := hts _ (List.mem_of_getElem? (l := wsX8_canBe) (i := 3) rfl)
  have lp5 : ∀ (k : Nat) (x1 : Int32) (x2 : Int32) (x3 : Int32) (x4 : Int32)  (H : Heap) (locs : List Loc) (ls : Array Slot) (o : Int32), fX8_canBe_L5 N k x1 x2 x3 x4 it_tryMany ft_tryLong ft_tryRow ft_tryFree = some o → va_P D vwCl [(qt, .inr (8, [.ref qt_w, .ref qt_isKept, .ref qt_value, .ref qt_weight, .ref qt_newTube, .ref qt_newPrice, .ref qt_newLow, .ref qt_newHigh, .ref qt_newGoods, .ref qt_rhythm, .ref qt_rhythmLong, .ref qt_slug, .int it_kinds, .int it_columns, .int it_slugs, .int it_newKinds, .int it_newColumns, .int it_newSlugs, .int it_rhythmTold, .ref qt_text, .int it_textSize, .int it_at, .int it_first, .int it_length, .int it_faultOf, .int it_fault, .ref qt_of, .ref qt_buyerColumn, .ref qt_buyerKind, .ref qt_buyerCoins, .int it_buyerMany, .ref qt_tryRow, .ref qt_tryLong, .ref qt_tryFree, .int it_tryMany])), (qt_tryLong, .inl (cI, 10, .inl ft_tryLong)), (qt_tryRow, .inl (cI, 10, .inl ft_tryRow)), (qt_tryFree, .inl (cZ, 10, .inl ft_tryFree))] H → va_S A s.heap H locs → lv_has ls 5 [(0, .ref qt), (1, .int x1), (2, .int x2), (3, .int x3), (4, .int x4)] → (∀ (e3 : Int32), e3 = o → ∀ (H : Heap) (locs : List Loc) (ls : Array Slot), va_P D vwCl [(qt, .inr (8, [.ref qt_w, .ref qt_isKept, .ref qt_value, .ref qt_weight, .ref qt_newTube, .ref qt_newPrice, .ref qt_newLow, .ref qt_newHigh, .ref qt_newGoods, .ref qt_rhythm, .ref qt_rhythmLong, .ref qt_slug, .int it_kinds, .int it_columns, .int it_slugs, .int it_newKinds, .int it_newColumns, .int it_newSlugs, .int it_rhythmTold, .ref qt_text, .int it_textSize, .int it_at, .int it_first, .int it_length, .int it_faultOf, .int it_fault, .ref qt_of, .ref qt_buyerColumn, .ref qt_buyerKind, .ref qt_buyerCoins, .int it_buyerMany, .ref qt_tryRow, .ref qt_tryLong, .ref qt_tryFree, .int it_tryMany])), (qt_tryLong, .inl (cI, 10, .inl ft_tryLong)), (qt_tryRow, .inl (cI, 10, .inl ft_tryRow)), (qt_tryFree, .inl (cZ, 10, .inl ft_tryFree))] H → va_S A s.heap H locs → lv_has ls 5 [(3, .int e3)] → W p l e ({ frames := 1, cells := 0, slots := 0, locals := 24 } : Room) s m args below meth c H locs 0 0 Z (F0 m 64 ls [])) → W p l e ({ frames := 1, cells := 0, slots := 0, locals := 24 } : Room) s m args below meth c H locs 0 0 Z (F0 m 5 ls []) := by
    intro k
    induction k with
    | zero =>
      intro x1 x2 x3 x4 H locs ls o h
      exact nomatch (show (none : Option (Int32)) = some o from h)
    | succ k ih =>
      intro x1 x2 x3 x4 H locs ls o h hP hS hl K
      rw [fX8_canBe_L5_s] at h
      refine lv_iload hx hb dX8_canBe_5 (lv_at hl 4 rfl) ?_
      refine lv_aload_n hx hb dX8_canBe_7 rfl (lv_at hl 0 rfl) ?_
      refine va_get (ci := 8) (v := .int it_tryMany) (C := RX8) (T := TX8) (N := 35) hx hb hts hiX8 hown hK hP 0 rfl rfl 34 (by decide) fl176 (fun _ h9 => h9) rfl dX8_canBe_8 ?_
      refine lv_icmp_ge (tgt := 64) hx hb dX8_canBe_11 (by decide) (fun c1 => ?_) (fun c1 => ?_)
      · replace h := if_t c1 h
        exact K x3 (Option.some.inj h) _ _ _ hP hS (lv_sub hl [3] rfl)
      · replace h := if_f c1 h
        refine lv_iload_n hx hb dX8_canBe_14 rfl (lv_at hl 3 rfl) ?_
        refine lv_if_eq (tgt := 56) hx hb dX8_canBe_15 (by decide) (fun c2 => ?_) (fun c2 => ?_)
        · replace h := if_t c2 h
          refine lv_iconst (v := 0) hx hb dX8_canBe_56 (by decide) ?_
          refine lv_istore_n (lv' := [(3, .int 0), (0, .ref qt), (1, .int x1), (2, .int x2), (4, .int x4)]) hx hb dX8_canBe_57 rfl hl (by decide) rfl (fun ls hl => ?_)
          obtain ⟨n3, en3⟩ : ∃ z : Int32, z = x4 + 1 := ⟨_, rfl⟩
          replace h := lt_at en3 h
          refine lv_iinc (v := n3) (lv' := [(4, .int n3), (3, .int 0), (0, .ref qt), (1, .int x1), (2, .int x2)]) hx hb dX8_canBe_58 hl (k := 4) rfl (by rw [en3]; rfl) (by decide) rfl (fun ls hl => ?_)
          refine lv_goto (tgt := 5) hx hb dX8_canBe_61 (by decide) ?_
          exact ih x1 x2 0 n3 _ _ _ o h hP hS (lv_sub hl [2, 3, 4, 1, 0] rfl) K
        · replace h := if_f c2 h
          refine lv_aload_n hx hb dX8_canBe_18 rfl (lv_at hl 0 rfl) ?_
          refine lv_iload hx hb dX8_canBe_19 (lv_at hl 4 rfl) ?_
          refine lv_iload_n hx hb dX8_canBe_21 rfl (lv_at hl 1 rfl) ?_
          refine lv_iload_n hx hb dX8_canBe_22 rfl (lv_at hl 2 rfl) ?_
          replace h := bd_el h
          obtain ⟨r4, hc5, h⟩ := h
          refine callVI (rest := []) ⟨hx, hb, hml, hown, hts⟩ (ctX8_freeAt l D cI cZ cB cS kK kV _ qt qt_w qt_isKept qt_value qt_weight qt_newTube qt_newPrice qt_newLow qt_newHigh qt_newGoods qt_rhythm qt_rhythmLong qt_slug qt_text qt_of qt_buyerColumn qt_buyerKind qt_buyerCoins qt_tryRow qt_tryLong qt_tryFree it_kinds it_columns it_slugs it_newKinds it_newColumns it_newSlugs it_rhythmTold it_textSize it_at it_first it_length it_faultOf it_fault it_buyerMany it_tryMany ft_tryLong ft_tryRow x4 x1 x2 N r4 hc5) (cwV 3 hts gX8_canBe_X8_freeAt rfl rfl rfl hdX8_freeAt ⟨Nat.le_of_ble_eq_true rfl, Nat.le_of_ble_eq_true rfl⟩) hK hN hX hP (dF hD rfl) hS hA [0, 1, 2] (mcC rfl (mcC rfl (mcC rfl mcN))) (by decide +kernel) [(qt, .inr (8, [.ref qt_w, .ref qt_isKept, .ref qt_value, .ref qt_weight, .ref qt_newTube, .ref qt_newPrice, .ref qt_newLow, .ref qt_newHigh, .ref qt_newGoods, .ref qt_rhythm, .ref qt_rhythmLong, .ref qt_slug, .int it_kinds, .int it_columns, .int it_slugs, .int it_newKinds, .int it_newColumns, .int it_newSlugs, .int it_rhythmTold, .ref qt_text, .int it_textSize, .int it_at, .int it_first, .int it_length, .int it_faultOf, .int it_fault, .ref qt_of, .ref qt_buyerColumn, .ref qt_buyerKind, .ref qt_buyerCoins, .int it_buyerMany, .ref qt_tryRow, .ref qt_tryLong, .ref qt_tryFree, .int it_tryMany])), (qt_tryLong, .inl (cI, 10, .inl ft_tryLong)), (qt_tryRow, .inl (cI, 10, .inl ft_tryRow)), (qt_tryFree, .inl (cZ, 10, .inl ft_tryFree))] [3] (mcC rfl (mcC rfl (mcC rfl mcN))) ((mcC rfl mcN).trans (mcC rfl mcN).symm) 4 rfl (by decide +kernel) (va_recv hK hP (ci := 8) (q0 := 0) rfl rfl) rfl hl.1 rfl (Nat.le_of_ble_eq_true rfl) ⟨Nat.zero_le _, Nat.zero_le _⟩ dX8_canBe_23 (fun H locs hP hS => ?_)
          refine lv_aload_n hx hb dX8_canBe_26 rfl (lv_at hl 0 rfl) ?_
          refine va_get (ci := 8) (v := .ref qt_tryFree) (C := RX8) (T := TX8) (N := 35) hx hb hts hiX8 hown hK hP 0 rfl rfl 33 (by decide) fl72 (fun _ h9 => h9) rfl dX8_canBe_27 ?_
          refine lv_iload hx hb dX8_canBe_30 (lv_at hl 4 rfl) ?_
          replace h := ck_el h
          obtain ⟨hi6, h⟩ := h
          refine va_zald hx hb hK hP 3 1 rfl rfl hi6 dX8_canBe_32 ?_
          refine lv_if_eq (tgt := 48) hx hb dX8_canBe_33 (by decide) (fun c7 => ?_) (fun c7 => ?_)
          · replace h := if_t c7 h
            refine lv_iconst (v := (-1)) hx hb dX8_canBe_48 (by decide) ?_
            refine lv_icmp_ne (tgt := 56) hx hb dX8_canBe_49 (by decide) (fun c8 => ?_) (fun c8 => ?_)
            · replace h := if_f c8 h
              refine lv_iconst (v := 0) hx hb dX8_canBe_56 (by decide) ?_
              refine lv_istore_n (lv' := [(3, .int 0), (0, .ref qt), (1, .int x1), (2, .int x2), (4, .int x4)]) hx hb dX8_canBe_57 rfl hl (by decide) rfl (fun ls hl => ?_)
              obtain ⟨n9, en9⟩ : ∃ z : Int32, z = x4 + 1 := ⟨_, rfl⟩
              replace h := lt_at en9 h
              refine lv_iinc (v := n9) (lv' := [(4, .int n9), (3, .int 0), (0, .ref qt), (1, .int x1), (2, .int x2)]) hx hb dX8_canBe_58 hl (k := 4) rfl (by rw [en9]; rfl) (by decide) rfl (fun ls hl => ?_)
              refine lv_goto (tgt := 5) hx hb dX8_canBe_61 (by decide) ?_
              exact ih x1 x2 0 n9 _ _ _ o h hP hS (lv_sub hl [2, 3, 4, 1, 0] rfl) K
            · replace h := if_t c8 h
              refine lv_iconst (v := 1) hx hb dX8_canBe_52 (by decide) ?_
              refine lv_goto (tgt := 57) hx hb dX8_canBe_53 (by decide) ?_
              refine lv_istore_n (lv' := [(3, .int 1), (0, .ref qt), (1, .int x1), (2, .int x2), (4, .int x4)]) hx hb dX8_canBe_57 rfl hl (by decide) rfl (fun ls hl => ?_)
              obtain ⟨n10, en10⟩ : ∃ z : Int32, z = x4 + 1 := ⟨_, rfl⟩
              replace h := lt_at en10 h
              refine lv_iinc (v := n10) (lv' := [(4, .int n10), (3, .int 1), (0, .ref qt), (1, .int x1), (2, .int x2)]) hx hb dX8_canBe_58 hl (k := 4) rfl (by rw [en10]; rfl) (by decide) rfl (fun ls hl => ?_)
              refine lv_goto (tgt := 5) hx hb dX8_canBe_61 (by decide) ?_
              exact ih x1 x2 1 n10 _ _ _ o h hP hS (lv_sub hl [2, 3, 4, 1, 0] rfl) K
          · replace h := if_f c7 h
            refine lv_aload_n hx hb dX8_canBe_36 rfl (lv_at hl 0 rfl) ?_
            refine va_get (ci := 8) (v := .ref qt_tryLong) (C := RX8) (T := TX8) (N := 35) hx hb hts hiX8 hown hK hP 0 rfl rfl 32 (by decide) fl69 (fun _ h9 => h9) rfl dX8_canBe_37 ?_
            refine lv_iload hx hb dX8_canBe_40 (lv_at hl 4 rfl) ?_
            refine va_iald hx hb hK hP 1 0 rfl rfl hi6 dX8_canBe_42 ?_
            refine lv_iconst (v := 1) hx hb dX8_canBe_43 (by decide) ?_
            refine lv_isub hx hb dX8_canBe_44 ?_
            refine lv_goto (tgt := 49) hx hb dX8_canBe_45 (by decide) ?_
            refine lv_icmp_ne (tgt := 56) hx hb dX8_canBe_49 (by decide) (fun c11 => ?_) (fun c11 => ?_)
            · replace h := if_f c11 h
              refine lv_iconst (v := 0) hx hb dX8_canBe_56 (by decide) ?_
              refine lv_istore_n (lv' := [(3, .int 0), (0, .ref qt), (1, .int x1), (2, .int x2), (4, .int x4)]) hx hb dX8_canBe_57 rfl hl (by decide) rfl (fun ls hl => ?_)
              obtain ⟨n12, en12⟩ : ∃ z : Int32, z = x4 + 1 := ⟨_, rfl⟩
              replace h := lt_at en12 h
              refine lv_iinc (v := n12) (lv' := [(4, .int n12), (3, .int 0), (0, .ref qt), (1, .int x1), (2, .int x2)]) hx hb dX8_canBe_58 hl (k := 4) rfl (by rw [en12]; rfl) (by decide) rfl (fun ls hl => ?_)
              refine lv_goto (tgt := 5) hx hb dX8_canBe_61 (by decide) ?_
              exact ih x1 x2 0 n12 _ _ _ o h hP hS (lv_sub hl [2, 3, 4, 1, 0] rfl) K
            · replace h := if_t c11 h
              refine lv_iconst (v := 1) hx hb dX8_canBe_52 (by decide) ?_
              refine lv_goto (tgt := 57) hx hb dX8_canBe_53 (by decide) ?_
              refine lv_istore_n (lv' := [(3, .int 1), (0, .ref qt), (1, .int x1), (2, .int x2), (4, .int x4)]) hx hb dX8_canBe_57 rfl hl (by decide) rfl (fun ls hl => ?_)
              obtain ⟨n13, en13⟩ : ∃ z : Int32, z = x4 + 1 := ⟨_, rfl⟩
              replace h := lt_at en13 h
              refine lv_iinc (v := n13) (lv' := [(4, .int n13), (3, .int 1), (0, .ref qt), (1, .int x1), (2, .int x2)]) hx hb dX8_canBe_58 hl (k := 4) rfl (by rw [en13]; rfl) (by decide) rfl (fun ls hl => ?_)
              refine lv_goto (tgt := 5) hx hb dX8_canBe_61 (by decide) ?_
              exact ih x1 x2 1 n13 _ _ _ o h hP hS (lv_sub hl [2, 3, 4, 1, 0] rfl) K
  unfold fX8_canBe at h
  refine lv_iconst (v := 1) hx hb dX8_canBe_0 (by decide) ?_
  refine lv_istore_n (lv' := [(3, .int 1), (0, .ref qt), (1, .int x1), (2, .int x2)]) hx hb dX8_canBe_1 rfl hl (by decide) rfl (fun ls hl => ?_)
  refine lv_iconst (v := 0) hx hb dX8_canBe_2 (by decide) ?_
  refine lv_istore (lv' := [(4, .int 0), (3, .int 1), (0, .ref qt), (1, .int x1), (2, .int x2)]) hx hb dX8_canBe_3 hl (by decide) rfl (fun ls hl => ?_)
  replace h := bd_el h
  obtain ⟨o14, ho14, h⟩ := h
  refine lp5 N x1 x2 1 0 _ _ _ o14 ho14 hP hS (lv_sub hl [2, 3, 4, 1, 0] rfl) (fun n15 eo H locs ls hP hS hl => ?_)
  subst eo
  refine lv_iload_n hx hb dX8_canBe_64 rfl (lv_at hl 0 rfl) ?_
  replace h := bl_el h
  obtain ⟨hn16, h⟩ := h
  simp only [Option.some.injEq] at h
  subst h
  exact hret _ _ _ _ hP hS hn16 dX8_canBe_65
theorem hdX8_canBe : yX8_canBe.cls = RX8 ∧ yX8_canBe.cls ≠ "java/lang/invoke/MethodHandle" ∧ yX8_canBe.cls ≠ "java/lang/invoke/VarHandle" ∧ (parseMethodDescriptor yX8_canBe.desc).map (fun d => d.parameters.length) = some 2 := by decide +kernel

noncomputable def fX8_fits_L20 (N : Nat) : Nat → Int32 → Int32 → Int32 → Int32 → Int32 → (Nat → Int32) → (Nat → Int32) → (Nat → Int32) → Option ((Int32) ⊕ (Int32))
  | 0, _, _, _, _, _, _, _, _ => none
  | k + 1, x1, x2, x3, x4, it_tryMany, ft_tryLong, ft_tryRow, ft_tryFree => (if (1 <<< (x1 &&& 31)) ≤ x4 then some (.inl x3) else bd (fX8_canBe N it_tryMany ft_tryLong ft_tryRow ft_tryFree x1 x4) fun r2 => (if r2 = 0 then lt (x4 + 1) fun n5 => fX8_fits_L20 N k x1 x2 x3 n5 it_tryMany ft_tryLong ft_tryRow ft_tryFree else (if x3 = x2 then some (.inr x4) else lt (x3 + 1) fun n7 => lt (x4 + 1) fun n8 => fX8_fits_L20 N k x1 x2 n7 n8 it_tryMany ft_tryLong ft_tryRow ft_tryFree)))
theorem fX8_fits_L20_s (N : Nat) (k : Nat) (x1 : Int32) (x2 : Int32) (x3 : Int32) (x4 : Int32) (it_tryMany : Int32) (ft_tryLong : Nat → Int32) (ft_tryRow : Nat → Int32) (ft_tryFree : Nat → Int32) : fX8_fits_L20 N (k + 1) x1 x2 x3 x4 it_tryMany ft_tryLong ft_tryRow ft_tryFree = ((if (1 <<< (x1 &&& 31)) ≤ x4 then some (.inl x3) else bd (fX8_canBe N it_tryMany ft_tryLong ft_tryRow ft_tryFree x1 x4) fun r2 => (if r2 = 0 then lt (x4 + 1) fun n5 => fX8_fits_L20 N k x1 x2 x3 n5 it_tryMany ft_tryLong ft_tryRow ft_tryFree else (if x3 = x2 then some (.inr x4) else lt (x3 + 1) fun n7 => lt (x4 + 1) fun n8 => fX8_fits_L20 N k x1 x2 n7 n8 it_tryMany ft_tryLong ft_tryRow ft_tryFree)))) := rfl
noncomputable def fX8_fits (N : Nat) (it_tryMany : Int32) (ft_tryLong : Nat → Int32) (ft_tryRow : Nat → Int32) (ft_tryFree : Nat → Int32) (x1 : Int32) (x2 : Int32) : Option (Int32) := bd (fX8_in N (Int32.toInt64 x1) 1 6) fun r9 => (if r9 = 0 then some (-1000000002) else bd (fX8_fits_L20 N N x1 x2 0 0 it_tryMany ft_tryLong ft_tryRow ft_tryFree) fun o => match o with | .inr rr => some rr | .inl n13 => (if x2 = (-1) then some n13 else some (-1)))
set_option maxHeartbeats 4000000 in
set_option maxRecDepth 100000 in
theorem ctX8_fits (l : Launch) (D : va_G) (cI cZ cB cS : ClassId) (kK kV : Nat → Nat) (sz : Nat) (qt qt_w qt_isKept qt_value qt_weight qt_newTube qt_newPrice qt_newLow qt_newHigh qt_newGoods qt_rhythm qt_rhythmLong qt_slug qt_text qt_of qt_buyerColumn qt_buyerKind qt_buyerCoins qt_tryRow qt_tryLong qt_tryFree : Nat) (it_kinds : Int32) (it_columns : Int32) (it_slugs : Int32) (it_newKinds : Int32) (it_newColumns : Int32) (it_newSlugs : Int32) (it_rhythmTold : Int32) (it_textSize : Int32) (it_at : Int32) (it_first : Int32) (it_length : Int32) (it_faultOf : Int32) (it_fault : Int32) (it_buyerMany : Int32) (it_tryMany : Int32) (ft_tryLong : Nat → Int32) (ft_tryRow : Nat → Int32) (ft_tryFree : Nat → Int32) (x1 : Int32) (x2 : Int32) (N : Nat) (r0 : Int32)  (h : fX8_fits N it_tryMany ft_tryLong ft_tryRow ft_tryFree x1 x2 = some r0) : CtI l yX8_fits wsX8_fits { frames := 2, cells := 0, slots := 0, locals := 48 } D (TY cI cZ cB cS) kK kV [.ref qt, .int x1, .int x2] [(qt, .inr (8, [.ref qt_w, .ref qt_isKept, .ref qt_value, .ref qt_weight, .ref qt_newTube, .ref qt_newPrice, .ref qt_newLow, .ref qt_newHigh, .ref qt_newGoods, .ref qt_rhythm, .ref qt_rhythmLong, .ref qt_slug, .int it_kinds, .int it_columns, .int it_slugs, .int it_newKinds, .int it_newColumns, .int it_newSlugs, .int it_rhythmTold, .ref qt_text, .int it_textSize, .int it_at, .int it_first, .int it_length, .int it_faultOf, .int it_fault, .ref qt_of, .ref qt_buyerColumn, .ref qt_buyerKind, .ref qt_buyerCoins, .int it_buyerMany, .ref qt_tryRow, .ref qt_tryLong, .ref qt_tryFree, .int it_tryMany])), (qt_tryLong, .inl (cI, 10, .inl ft_tryLong)), (qt_tryRow, .inl (cI, 10, .inl ft_tryRow)), (qt_tryFree, .inl (cZ, 10, .inl ft_tryFree))] [(qt, .inr (8, [.ref qt_w, .ref qt_isKept, .ref qt_value, .ref qt_weight, .ref qt_newTube, .ref qt_newPrice, .ref qt_newLow, .ref qt_newHigh, .ref qt_newGoods, .ref qt_rhythm, .ref qt_rhythmLong, .ref qt_slug, .int it_kinds, .int it_columns, .int it_slugs, .int it_newKinds, .int it_newColumns, .int it_newSlugs, .int it_rhythmTold, .ref qt_text, .int it_textSize, .int it_at, .int it_first, .int it_length, .int it_faultOf, .int it_fault, .ref qt_of, .ref qt_buyerColumn, .ref qt_buyerKind, .ref qt_buyerCoins, .int it_buyerMany, .ref qt_tryRow, .ref qt_tryLong, .ref qt_tryFree, .int it_tryMany])), (qt_tryLong, .inl (cI, 10, .inl ft_tryLong)), (qt_tryRow, .inl (cI, 10, .inl ft_tryRow)), (qt_tryFree, .inl (cZ, 10, .inl ft_tryFree))] sz r0 := by
  refine mkI (cc := cX8_fits) (maxL := 5) (rt := .int) (own := RX8) (by decide) rfl rfl (Nat.le_of_ble_eq_true rfl) ?_
  intro p e s m args below meth c A Z ls hx hb hml hown hts hK hN hX hP hD hA hS hret hl
  have hl : lv_has ls 5 [(0, .ref qt), (1, .int x1), (2, .int x2)] := hl
  have cn281 : (Cond.constantLong RX8 281 (6)).before args s = true := hts _ (List.mem_of_getElem? (l := wsX8_fits) (i := 1) rfl)
  have cn81 : (Cond.constant RX8 81 (-1000000002)).before args s = true := hts _ (List.mem_of_getElem? (l := wsX8_fits) (i := 2) rfl)
  have lp20 : ∀ (k : Nat) (x1 : Int32) (x2 : Int32) (x3 : Int32) (x4 : Int32)  (H : Heap) (locs : List Loc) (ls : Array Slot) (o : (Int32) ⊕ (Int32)), fX8_fits_L20 N k x1 x2 x3 x4 it_tryMany ft_tryLong ft_tryRow ft_tryFree = some o → va_P D vwCl [(qt, .inr (8, [.ref qt_w, .ref qt_isKept, .ref qt_value, .ref qt_weight, .ref qt_newTube, .ref qt_newPrice, .ref qt_newLow, .ref qt_newHigh, .ref qt_newGoods, .ref qt_rhythm, .ref qt_rhythmLong, .ref qt_slug, .int it_kinds, .int it_columns, .int it_slugs, .int it_newKinds, .int it_newColumns, .int it_newSlugs, .int it_rhythmTold, .ref qt_text, .int it_textSize, .int it_at, .int it_first, .int it_length, .int it_faultOf, .int it_fault, .ref qt_of, .ref qt_buyerColumn, .ref qt_buyerKind, .ref qt_buyerCoins, .int it_buyerMany, .ref qt_tryRow, .ref qt_tryLong, .ref qt_tryFree, .int it_tryMany])), (qt_tryLong, .inl (cI, 10, .inl ft_tryLong)), (qt_tryRow, .inl (cI, 10, .inl ft_tryRow)), (qt_tryFree, .inl (cZ, 10, .inl ft_tryFree))] H → va_S A s.heap H locs → lv_has ls 5 [(0, .ref qt), (1, .int x1), (2, .int x2), (3, .int x3), (4, .int x4)] → (∀ rr, .inr rr = o → rr = r0) → (∀ (e3 : Int32), .inl e3 = o → ∀ (H : Heap) (locs : List Loc) (ls : Array Slot), va_P D vwCl [(qt, .inr (8, [.ref qt_w, .ref qt_isKept, .ref qt_value, .ref qt_weight, .ref qt_newTube, .ref qt_newPrice, .ref qt_newLow, .ref qt_newHigh, .ref qt_newGoods, .ref qt_rhythm, .ref qt_rhythmLong, .ref qt_slug, .int it_kinds, .int it_columns, .int it_slugs, .int it_newKinds, .int it_newColumns, .int it_newSlugs, .int it_rhythmTold, .ref qt_text, .int it_textSize, .int it_at, .int it_first, .int it_length, .int it_faultOf, .int it_fault, .ref qt_of, .ref qt_buyerColumn, .ref qt_buyerKind, .ref qt_buyerCoins, .int it_buyerMany, .ref qt_tryRow, .ref qt_tryLong, .ref qt_tryFree, .int it_tryMany])), (qt_tryLong, .inl (cI, 10, .inl ft_tryLong)), (qt_tryRow, .inl (cI, 10, .inl ft_tryRow)), (qt_tryFree, .inl (cZ, 10, .inl ft_tryFree))] H → va_S A s.heap H locs → lv_has ls 5 [(2, .int x2), (3, .int e3)] → W p l e ({ frames := 2, cells := 0, slots := 0, locals := 48 } : Room) s m args below meth c H locs 0 0 Z (F0 m 55 ls [])) → W p l e ({ frames := 2, cells := 0, slots := 0, locals := 48 } : Room) s m args below meth c H locs 0 0 Z (F0 m 20 ls []) := by
    intro k
    induction k with
    | zero =>
      intro x1 x2 x3 x4 H locs ls o h
      exact nomatch (show (none : Option ((Int32) ⊕ (Int32))) = some o from h)
    | succ k ih =>
      intro x1 x2 x3 x4 H locs ls o h hP hS hl KR K
      rw [fX8_fits_L20_s] at h
      refine lv_iload hx hb dX8_fits_20 (lv_at hl 4 rfl) ?_
      refine lv_iconst (v := 1) hx hb dX8_fits_22 (by decide) ?_
      refine lv_iload_n hx hb dX8_fits_23 rfl (lv_at hl 1 rfl) ?_
      refine lv_ishl hx hb dX8_fits_24 ?_
      refine lv_icmp_ge (tgt := 55) hx hb dX8_fits_25 (by decide) (fun c1 => ?_) (fun c1 => ?_)
      · replace h := if_t c1 h
        exact K x3 (Option.some.inj h) _ _ _ hP hS (lv_sub hl [2, 3] rfl)
      · replace h := if_f c1 h
        refine lv_aload_n hx hb dX8_fits_28 rfl (lv_at hl 0 rfl) ?_
        refine lv_iload_n hx hb dX8_fits_29 rfl (lv_at hl 1 rfl) ?_
        refine lv_iload hx hb dX8_fits_30 (lv_at hl 4 rfl) ?_
        replace h := bd_el h
        obtain ⟨r2, hc3, h⟩ := h
        refine callVI (rest := []) ⟨hx, hb, hml, hown, hts⟩ (ctX8_canBe l D cI cZ cB cS kK kV _ qt qt_w qt_isKept qt_value qt_weight qt_newTube qt_newPrice qt_newLow qt_newHigh qt_newGoods qt_rhythm qt_rhythmLong qt_slug qt_text qt_of qt_buyerColumn qt_buyerKind qt_buyerCoins qt_tryRow qt_tryLong qt_tryFree it_kinds it_columns it_slugs it_newKinds it_newColumns it_newSlugs it_rhythmTold it_textSize it_at it_first it_length it_faultOf it_fault it_buyerMany it_tryMany ft_tryLong ft_tryRow ft_tryFree x1 x4 N r2 hc3) (cwV 2 hts gX8_fits_X8_canBe rfl rfl rfl hdX8_canBe ⟨Nat.le_of_ble_eq_true rfl, Nat.le_of_ble_eq_true rfl⟩) hK hN hX hP (dF hD rfl) hS hA [0, 1, 2, 3] (mcC rfl (mcC rfl (mcC rfl (mcC rfl mcN)))) (by decide +kernel) [(qt, .inr (8, [.ref qt_w, .ref qt_isKept, .ref qt_value, .ref qt_weight, .ref qt_newTube, .ref qt_newPrice, .ref qt_newLow, .ref qt_newHigh, .ref qt_newGoods, .ref qt_rhythm, .ref qt_rhythmLong, .ref qt_slug, .int it_kinds, .int it_columns, .int it_slugs, .int it_newKinds, .int it_newColumns, .int it_newSlugs, .int it_rhythmTold, .ref qt_text, .int it_textSize, .int it_at, .int it_first, .int it_length, .int it_faultOf, .int it_fault, .ref qt_of, .ref qt_buyerColumn, .ref qt_buyerKind, .ref qt_buyerCoins, .int it_buyerMany, .ref qt_tryRow, .ref qt_tryLong, .ref qt_tryFree, .int it_tryMany])), (qt_tryLong, .inl (cI, 10, .inl ft_tryLong)), (qt_tryRow, .inl (cI, 10, .inl ft_tryRow)), (qt_tryFree, .inl (cZ, 10, .inl ft_tryFree))] [] (mcC rfl (mcC rfl (mcC rfl (mcC rfl mcN)))) (mcN.trans mcN.symm) 4 rfl (by decide +kernel) (va_recv hK hP (ci := 8) (q0 := 0) rfl rfl) rfl hl.1 rfl (Nat.le_of_ble_eq_true rfl) ⟨Nat.zero_le _, Nat.zero_le _⟩ dX8_fits_32 (fun H locs hP hS => ?_)
        refine lv_if_eq (tgt := 49) hx hb dX8_fits_35 (by decide) (fun c4 => ?_) (fun c4 => ?_)
        · replace h := if_t c4 h
          obtain ⟨n5, en5⟩ : ∃ z : Int32, z = x4 + 1 := ⟨_, rfl⟩
          replace h := lt_at en5 h
          refine lv_iinc (v := n5) (lv' := [(4, .int n5), (0, .ref qt), (1, .int x1), (2, .int x2), (3, .int x3)]) hx hb dX8_fits_49 hl (k := 4) rfl (by rw [en5]; rfl) (by decide) rfl (fun ls hl => ?_)
          refine lv_goto (tgt := 20) hx hb dX8_fits_52 (by decide) ?_
          exact ih x1 x2 x3 n5 _ _ _ o h hP hS (lv_sub hl [1, 2, 3, 4, 0] rfl) KR K
        · replace h := if_f c4 h
          refine lv_iload_n hx hb dX8_fits_38 rfl (lv_at hl 3 rfl) ?_
          refine lv_iload_n hx hb dX8_fits_39 rfl (lv_at hl 2 rfl) ?_
          refine lv_icmp_ne (tgt := 46) hx hb dX8_fits_40 (by decide) (fun c6 => ?_) (fun c6 => ?_)
          · replace h := if_f c6 h
            obtain ⟨n7, en7⟩ : ∃ z : Int32, z = x3 + 1 := ⟨_, rfl⟩
            replace h := lt_at en7 h
            refine lv_iinc (v := n7) (lv' := [(3, .int n7), (0, .ref qt), (1, .int x1), (2, .int x2), (4, .int x4)]) hx hb dX8_fits_46 hl (k := 3) rfl (by rw [en7]; rfl) (by decide) rfl (fun ls hl => ?_)
            obtain ⟨n8, en8⟩ : ∃ z : Int32, z = x4 + 1 := ⟨_, rfl⟩
            replace h := lt_at en8 h
            refine lv_iinc (v := n8) (lv' := [(4, .int n8), (3, .int n7), (0, .ref qt), (1, .int x1), (2, .int x2)]) hx hb dX8_fits_49 hl (k := 4) rfl (by rw [en8]; rfl) (by decide) rfl (fun ls hl => ?_)
            refine lv_goto (tgt := 20) hx hb dX8_fits_52 (by decide) ?_
            exact ih x1 x2 n7 n8 _ _ _ o h hP hS (lv_sub hl [2, 3, 4, 1, 0] rfl) KR K
          · replace h := if_t c6 h
            refine lv_iload hx hb dX8_fits_43 (lv_at hl 4 rfl) ?_
            have hz9 := KR _ (Option.some.inj h)
            subst hz9
            exact hret _ _ _ _ hP hS rfl dX8_fits_45
  unfold fX8_fits at h
  refine lv_iload_n hx hb dX8_fits_0 rfl (lv_at hl 1 rfl) ?_
  refine lv_i2l (v := Int32.toInt64 x1) hx hb dX8_fits_1 rfl ?_
  refine lv_lconst (v := 1) hx hb dX8_fits_2 (by decide) ?_
  refine lv_ldc2 (v := 6) hx hb hown cn281 dX8_fits_3 ?_
  replace h := bd_el h
  obtain ⟨r9, hc10, h⟩ := h
  refine callSI (rest := []) ⟨hx, hb, hml, hown, hts⟩ (ctX8_in l D cI cZ cB cS kK kV _ (Int32.toInt64 x1) 1 6 N r9 hc10) (va_cwS 3 hts gX8_fits_X8_in rfl rfl rfl hdX8_in ⟨Nat.le_of_ble_eq_true rfl, Nat.le_of_ble_eq_true rfl⟩) hK hN hX hP (dF hD rfl) hS hA [] mcN (by decide +kernel) [(qt, .inr (8, [.ref qt_w, .ref qt_isKept, .ref qt_value, .ref qt_weight, .ref qt_newTube, .ref qt_newPrice, .ref qt_newLow, .ref qt_newHigh, .ref qt_newGoods, .ref qt_rhythm, .ref qt_rhythmLong, .ref qt_slug, .int it_kinds, .int it_columns, .int it_slugs, .int it_newKinds, .int it_newColumns, .int it_newSlugs, .int it_rhythmTold, .ref qt_text, .int it_textSize, .int it_at, .int it_first, .int it_length, .int it_faultOf, .int it_fault, .ref qt_of, .ref qt_buyerColumn, .ref qt_buyerKind, .ref qt_buyerCoins, .int it_buyerMany, .ref qt_tryRow, .ref qt_tryLong, .ref qt_tryFree, .int it_tryMany])), (qt_tryLong, .inl (cI, 10, .inl ft_tryLong)), (qt_tryRow, .inl (cI, 10, .inl ft_tryRow)), (qt_tryFree, .inl (cZ, 10, .inl ft_tryFree))] [0, 1, 2, 3] mcN ((mcC rfl (mcC rfl (mcC rfl (mcC rfl mcN)))).trans (mcC rfl (mcC rfl (mcC rfl (mcC rfl mcN)))).symm) 4 rfl (by decide +kernel) rfl hl.1 rfl (Nat.le_of_ble_eq_true rfl) ⟨Nat.zero_le _, Nat.zero_le _⟩ dX8_fits_6 (fun H locs hP hS => ?_)
  refine lv_if_ne (tgt := 15) hx hb dX8_fits_9 (by decide) (fun c11 => ?_) (fun c11 => ?_)
  · replace h := if_f c11 h
    refine lv_iconst (v := 0) hx hb dX8_fits_15 (by decide) ?_
    refine lv_istore_n (lv' := [(3, .int 0), (0, .ref qt), (1, .int x1), (2, .int x2)]) hx hb dX8_fits_16 rfl hl (by decide) rfl (fun ls hl => ?_)
    refine lv_iconst (v := 0) hx hb dX8_fits_17 (by decide) ?_
    refine lv_istore (lv' := [(4, .int 0), (3, .int 0), (0, .ref qt), (1, .int x1), (2, .int x2)]) hx hb dX8_fits_18 hl (by decide) rfl (fun ls hl => ?_)
    replace h := bd_el h
    obtain ⟨o12, ho12, h⟩ := h
    refine lp20 N x1 x2 0 0 _ _ _ o12 ho12 hP hS (lv_sub hl [2, 3, 4, 1, 0] rfl) (fun rr er => by subst er; exact Option.some.inj h) (fun n13 eo H locs ls hP hS hl => ?_)
    subst eo
    dsimp only at h
    refine lv_iload_n hx hb dX8_fits_55 rfl (lv_at hl 0 rfl) ?_
    refine lv_iconst (v := (-1)) hx hb dX8_fits_56 (by decide) ?_
    refine lv_icmp_ne (tgt := 64) hx hb dX8_fits_57 (by decide) (fun c14 => ?_) (fun c14 => ?_)
    · replace h := if_f c14 h
      refine lv_iconst (v := (-1)) hx hb dX8_fits_64 (by decide) ?_
      simp only [Option.some.injEq] at h
      subst h
      exact hret _ _ _ _ hP hS rfl dX8_fits_65
    · replace h := if_t c14 h
      refine lv_iload_n hx hb dX8_fits_60 rfl (lv_at hl 1 rfl) ?_
      refine lv_goto (tgt := 65) hx hb dX8_fits_61 (by decide) ?_
      simp only [Option.some.injEq] at h
      subst h
      exact hret _ _ _ _ hP hS rfl dX8_fits_65
  · replace h := if_t c11 h
    refine lv_ldc (v := (-1000000002)) hx hb hown cn81 dX8_fits_12 ?_
    simp only [Option.some.injEq] at h
    subst h
    exact hret _ _ _ _ hP hS rfl dX8_fits_14
theorem hdX8_fits : yX8_fits.cls = RX8 ∧ yX8_fits.cls ≠ "java/lang/invoke/MethodHandle" ∧ yX8_fits.cls ≠ "java/lang/invoke/VarHandle" ∧ (parseMethodDescriptor yX8_fits.desc).map (fun d => d.parameters.length) = some 2 := by decide +kernel

noncomputable def fX8_tear (N : Nat) (it_buyerMany : Int32) (it_tryMany : Int32) : Option (Int32 × Int32 × Int32) := lt (it_buyerMany + it_tryMany) fun n1 => some (n1, 0, 0)
set_option maxHeartbeats 4000000 in
set_option maxRecDepth 100000 in
theorem ctX8_tear (l : Launch) (D : va_G) (cI cZ cB cS : ClassId) (kK kV : Nat → Nat) (sz : Nat) (qt qt_w qt_isKept qt_value qt_weight qt_newTube qt_newPrice qt_newLow qt_newHigh qt_newGoods qt_rhythm qt_rhythmLong qt_slug qt_text qt_of qt_buyerColumn qt_buyerKind qt_buyerCoins qt_tryRow qt_tryLong qt_tryFree : Nat) (it_kinds : Int32) (it_columns : Int32) (it_slugs : Int32) (it_newKinds : Int32) (it_newColumns : Int32) (it_newSlugs : Int32) (it_rhythmTold : Int32) (it_textSize : Int32) (it_at : Int32) (it_first : Int32) (it_length : Int32) (it_faultOf : Int32) (it_fault : Int32) (it_buyerMany : Int32) (it_tryMany : Int32)  (N : Nat) (r0 : Int32) (w_it_buyerMany : Int32) (w_it_tryMany : Int32) (h : fX8_tear N it_buyerMany it_tryMany = some (r0, w_it_buyerMany, w_it_tryMany)) : CtI l yX8_tear wsX8_tear { frames := 0, cells := 0, slots := 0, locals := 0 } D (TY cI cZ cB cS) kK kV [.ref qt] [(qt, .inr (8, [.ref qt_w, .ref qt_isKept, .ref qt_value, .ref qt_weight, .ref qt_newTube, .ref qt_newPrice, .ref qt_newLow, .ref qt_newHigh, .ref qt_newGoods, .ref qt_rhythm, .ref qt_rhythmLong, .ref qt_slug, .int it_kinds, .int it_columns, .int it_slugs, .int it_newKinds, .int it_newColumns, .int it_newSlugs, .int it_rhythmTold, .ref qt_text, .int it_textSize, .int it_at, .int it_first, .int it_length, .int it_faultOf, .int it_fault, .ref qt_of, .ref qt_buyerColumn, .ref qt_buyerKind, .ref qt_buyerCoins, .int it_buyerMany, .ref qt_tryRow, .ref qt_tryLong, .ref qt_tryFree, .int it_tryMany]))] [(qt, .inr (8, [.ref qt_w, .ref qt_isKept, .ref qt_value, .ref qt_weight, .ref qt_newTube, .ref qt_newPrice, .ref qt_newLow, .ref qt_newHigh, .ref qt_newGoods, .ref qt_rhythm, .ref qt_rhythmLong, .ref qt_slug, .int it_kinds, .int it_columns, .int it_slugs, .int it_newKinds, .int it_newColumns, .int it_newSlugs, .int it_rhythmTold, .ref qt_text, .int it_textSize, .int it_at, .int it_first, .int it_length, .int it_faultOf, .int it_fault, .ref qt_of, .ref qt_buyerColumn, .ref qt_buyerKind, .ref qt_buyerCoins, .int w_it_buyerMany, .ref qt_tryRow, .ref qt_tryLong, .ref qt_tryFree, .int w_it_tryMany]))] sz r0 := by
  refine mkI (cc := cX8_tear) (maxL := 2) (rt := .int) (own := RX8) (by decide) rfl rfl (Nat.le_of_ble_eq_true rfl) ?_
  intro p e s m args below meth c A Z ls hx hb hml hown hts hK hN hX hP hD hA hS hret hl
  have hl : lv_has ls 2 [(0, .ref qt)] := hl
  have fl173 : (Cond.fieldLink RX8 173 "SoupWallModel" "buyerMany" "I").before args s = true := hts _ (List.mem_of_getElem? (l := wsX8_tear) (i := 1) rfl)
  have hiX8 : ∀ w ∈ wsX80, w ∈ wsX8_tear := fun w h => List.mem_cons_of_mem _ (List.mem_append_right _ h)
  have fl176 : (Cond.fieldLink RX8 176 "SoupWallModel" "tryMany" "I").before args s = true := hts _ (List.mem_of_getElem? (l := wsX8_tear) (i := 2) rfl)
  unfold fX8_tear at h
  refine lv_aload_n hx hb dX8_tear_0 rfl (lv_at hl 0 rfl) ?_
  refine va_get (ci := 8) (v := .int it_buyerMany) (C := RX8) (T := TX8) (N := 35) hx hb hts hiX8 hown hK hP 0 rfl rfl 30 (by decide) fl173 (fun _ h9 => h9) rfl dX8_tear_1 ?_
  refine lv_aload_n hx hb dX8_tear_4 rfl (lv_at hl 0 rfl) ?_
  refine va_get (ci := 8) (v := .int it_tryMany) (C := RX8) (T := TX8) (N := 35) hx hb hts hiX8 hown hK hP 0 rfl rfl 34 (by decide) fl176 (fun _ h9 => h9) rfl dX8_tear_5 ?_
  refine lv_iadd hx hb dX8_tear_8 ?_
  refine lv_topi (fun n1 en1 => ?_)
  replace h := lt_at en1 h
  refine lv_istore_n (lv' := [(1, .int n1), (0, .ref qt)]) hx hb dX8_tear_9 rfl hl (by decide) rfl (fun ls hl => ?_)
  refine lv_aload_n hx hb dX8_tear_10 rfl (lv_at hl 1 rfl) ?_
  refine lv_iconst (v := 0) hx hb dX8_tear_11 (by decide) ?_
  refine va_put (ci := 8) (v := .int 0) (ty := .int) (C := RX8) (T := TX8) (N := 35) hx hb hts hiX8 tyX8 tyX8_ok nmX8 hown hK hP (dF hD rfl) hS 0 rfl rfl 30 (by decide) fl173 (fun _ h9 => h9) rfl (by decide +kernel) rfl rfl (Nat.le_of_ble_eq_true rfl) dX8_tear_12 (fun H locs hP _ hS => ?_)
  replace hP : va_P D vwCl [(qt, .inr (8, [.ref qt_w, .ref qt_isKept, .ref qt_value, .ref qt_weight, .ref qt_newTube, .ref qt_newPrice, .ref qt_newLow, .ref qt_newHigh, .ref qt_newGoods, .ref qt_rhythm, .ref qt_rhythmLong, .ref qt_slug, .int it_kinds, .int it_columns, .int it_slugs, .int it_newKinds, .int it_newColumns, .int it_newSlugs, .int it_rhythmTold, .ref qt_text, .int it_textSize, .int it_at, .int it_first, .int it_length, .int it_faultOf, .int it_fault, .ref qt_of, .ref qt_buyerColumn, .ref qt_buyerKind, .ref qt_buyerCoins, .int 0, .ref qt_tryRow, .ref qt_tryLong, .ref qt_tryFree, .int it_tryMany]))] H := hP
  refine lv_aload_n hx hb dX8_tear_15 rfl (lv_at hl 1 rfl) ?_
  refine lv_iconst (v := 0) hx hb dX8_tear_16 (by decide) ?_
  refine va_put (ci := 8) (v := .int 0) (ty := .int) (C := RX8) (T := TX8) (N := 35) hx hb hts hiX8 tyX8 tyX8_ok nmX8 hown hK hP (dF hD rfl) hS 0 rfl rfl 34 (by decide) fl176 (fun _ h9 => h9) rfl (by decide +kernel) rfl rfl (Nat.le_of_ble_eq_true rfl) dX8_tear_17 (fun H locs hP _ hS => ?_)
  replace hP : va_P D vwCl [(qt, .inr (8, [.ref qt_w, .ref qt_isKept, .ref qt_value, .ref qt_weight, .ref qt_newTube, .ref qt_newPrice, .ref qt_newLow, .ref qt_newHigh, .ref qt_newGoods, .ref qt_rhythm, .ref qt_rhythmLong, .ref qt_slug, .int it_kinds, .int it_columns, .int it_slugs, .int it_newKinds, .int it_newColumns, .int it_newSlugs, .int it_rhythmTold, .ref qt_text, .int it_textSize, .int it_at, .int it_first, .int it_length, .int it_faultOf, .int it_fault, .ref qt_of, .ref qt_buyerColumn, .ref qt_buyerKind, .ref qt_buyerCoins, .int 0, .ref qt_tryRow, .ref qt_tryLong, .ref qt_tryFree, .int 0]))] H := hP
  refine lv_iload_n hx hb dX8_tear_20 rfl (lv_at hl 0 rfl) ?_
  simp only [Option.some.injEq, Prod.mk.injEq] at h
  obtain ⟨rfl, rfl, rfl⟩ := h
  exact hret _ _ _ _ hP hS rfl dX8_tear_21
theorem hdX8_tear : yX8_tear.cls = RX8 ∧ yX8_tear.cls ≠ "java/lang/invoke/MethodHandle" ∧ yX8_tear.cls ≠ "java/lang/invoke/VarHandle" ∧ (parseMethodDescriptor yX8_tear.desc).map (fun d => d.parameters.length) = some 0 := by decide +kernel

noncomputable def fX8_seed (N : Nat) (ft_w : Nat → Int32) (x1 : Int32) : Option (Int32 × (Nat → Int32)) := (if 0 ≤ x1 then bd (fX8_set N ft_w 50 x1) fun (r2, g3) => some (r2, g3) else some ((-1000000002), ft_w))
set_option maxHeartbeats 4000000 in
set_option maxRecDepth 100000 in
theorem ctX8_seed (l : Launch) (D : va_G) (cI cZ cB cS : ClassId) (kK kV : Nat → Nat) (sz : Nat) (qt qt_w qt_isKept qt_value qt_weight qt_newTube qt_newPrice qt_newLow qt_newHigh qt_newGoods qt_rhythm qt_rhythmLong qt_slug qt_text qt_of qt_buyerColumn qt_buyerKind qt_buyerCoins qt_tryRow qt_tryLong qt_tryFree : Nat) (it_kinds : Int32) (it_columns : Int32) (it_slugs : Int32) (it_newKinds : Int32) (it_newColumns : Int32) (it_newSlugs : Int32) (it_rhythmTold : Int32) (it_textSize : Int32) (it_at : Int32) (it_first : Int32) (it_length : Int32) (it_faultOf : Int32) (it_fault : Int32) (it_buyerMany : Int32) (it_tryMany : Int32) (ft_w : Nat → Int32) (x1 : Int32) (N : Nat) (r0 : Int32) (w_ft_w : Nat → Int32) (h : fX8_seed N ft_w x1 = some (r0, w_ft_w)) : CtI l yX8_seed wsX8_seed { frames := 1, cells := 0, slots := 0, locals := 23 } D (TY cI cZ cB cS) kK kV [.ref qt, .int x1] [(qt, .inr (8, [.ref qt_w, .ref qt_isKept, .ref qt_value, .ref qt_weight, .ref qt_newTube, .ref qt_newPrice, .ref qt_newLow, .ref qt_newHigh, .ref qt_newGoods, .ref qt_rhythm, .ref qt_rhythmLong, .ref qt_slug, .int it_kinds, .int it_columns, .int it_slugs, .int it_newKinds, .int it_newColumns, .int it_newSlugs, .int it_rhythmTold, .ref qt_text, .int it_textSize, .int it_at, .int it_first, .int it_length, .int it_faultOf, .int it_fault, .ref qt_of, .ref qt_buyerColumn, .ref qt_buyerKind, .ref qt_buyerCoins, .int it_buyerMany, .ref qt_tryRow, .ref qt_tryLong, .ref qt_tryFree, .int it_tryMany])), (qt_w, .inl (cI, 240, .inl ft_w))] [(qt, .inr (8, [.ref qt_w, .ref qt_isKept, .ref qt_value, .ref qt_weight, .ref qt_newTube, .ref qt_newPrice, .ref qt_newLow, .ref qt_newHigh, .ref qt_newGoods, .ref qt_rhythm, .ref qt_rhythmLong, .ref qt_slug, .int it_kinds, .int it_columns, .int it_slugs, .int it_newKinds, .int it_newColumns, .int it_newSlugs, .int it_rhythmTold, .ref qt_text, .int it_textSize, .int it_at, .int it_first, .int it_length, .int it_faultOf, .int it_fault, .ref qt_of, .ref qt_buyerColumn, .ref qt_buyerKind, .ref qt_buyerCoins, .int it_buyerMany, .ref qt_tryRow, .ref qt_tryLong, .ref qt_tryFree, .int it_tryMany])), (qt_w, .inl (cI, 240, .inl w_ft_w))] sz r0 := by
  refine mkI (cc := cX8_seed) (maxL := 2) (rt := .int) (own := RX8) (by decide) rfl rfl (Nat.le_of_ble_eq_true rfl) ?_
  intro p e s m args below meth c A Z ls hx hb hml hown hts hK hN hX hP hD hA hS hret hl
  have hl : lv_has ls 2 [(0, .ref qt), (1, .int x1)] := hl
  have cn81 : (Cond.constant RX8 81 (-1000000002)).before args s = true := hts _ (List.mem_of_getElem? (l := wsX8_seed) (i := 1) rfl)
  unfold fX8_seed at h
  refine lv_iload_n hx hb dX8_seed_0 rfl (lv_at hl 1 rfl) ?_
  refine lv_if_ge (tgt := 9) hx hb dX8_seed_1 (by decide) (fun c1 => ?_) (fun c1 => ?_)
  · replace h := if_t c1 h
    refine lv_aload_n hx hb dX8_seed_9 rfl (lv_at hl 0 rfl) ?_
    refine lv_bipush (v := 50) hx hb dX8_seed_10 (by decide) ?_
    refine lv_iload_n hx hb dX8_seed_12 rfl (lv_at hl 1 rfl) ?_
    replace h := bd_el h
    obtain ⟨⟨r2, g3⟩, hc4, h⟩ := h
    refine callVI (rest := []) ⟨hx, hb, hml, hown, hts⟩ (ctX8_set l D cI cZ cB cS kK kV _ qt qt_w qt_isKept qt_value qt_weight qt_newTube qt_newPrice qt_newLow qt_newHigh qt_newGoods qt_rhythm qt_rhythmLong qt_slug qt_text qt_of qt_buyerColumn qt_buyerKind qt_buyerCoins qt_tryRow qt_tryLong qt_tryFree it_kinds it_columns it_slugs it_newKinds it_newColumns it_newSlugs it_rhythmTold it_textSize it_at it_first it_length it_faultOf it_fault it_buyerMany it_tryMany ft_w 50 x1 N r2 g3 hc4) (cwV 2 hts gX8_seed_X8_set rfl rfl rfl hdX8_set ⟨Nat.le_of_ble_eq_true rfl, Nat.le_of_ble_eq_true rfl⟩) hK hN hX hP (dF hD rfl) hS hA [0, 1] (mcC rfl (mcC rfl mcN)) (by decide +kernel) [(qt, .inr (8, [.ref qt_w, .ref qt_isKept, .ref qt_value, .ref qt_weight, .ref qt_newTube, .ref qt_newPrice, .ref qt_newLow, .ref qt_newHigh, .ref qt_newGoods, .ref qt_rhythm, .ref qt_rhythmLong, .ref qt_slug, .int it_kinds, .int it_columns, .int it_slugs, .int it_newKinds, .int it_newColumns, .int it_newSlugs, .int it_rhythmTold, .ref qt_text, .int it_textSize, .int it_at, .int it_first, .int it_length, .int it_faultOf, .int it_fault, .ref qt_of, .ref qt_buyerColumn, .ref qt_buyerKind, .ref qt_buyerCoins, .int it_buyerMany, .ref qt_tryRow, .ref qt_tryLong, .ref qt_tryFree, .int it_tryMany])), (qt_w, .inl (cI, 240, .inl g3))] [] (mcC rfl (mcC rfl mcN)) (mcN.trans mcN.symm) 2 rfl (by decide +kernel) (va_recv hK hP (ci := 8) (q0 := 0) rfl rfl) rfl hl.1 rfl (Nat.le_of_ble_eq_true rfl) ⟨Nat.zero_le _, Nat.zero_le _⟩ dX8_seed_13 (fun H locs hP hS => ?_)
    simp only [Option.some.injEq, Prod.mk.injEq] at h
    obtain ⟨rfl, rfl⟩ := h
    exact hret _ _ _ _ hP hS rfl dX8_seed_16
  · replace h := if_f c1 h
    refine lv_ldc (v := (-1000000002)) hx hb hown cn81 dX8_seed_4 ?_
    refine lv_goto (tgt := 16) hx hb dX8_seed_6 (by decide) ?_
    simp only [Option.some.injEq, Prod.mk.injEq] at h
    obtain ⟨rfl, rfl⟩ := h
    exact hret _ _ _ _ hP hS rfl dX8_seed_16
theorem hdX8_seed : yX8_seed.cls = RX8 ∧ yX8_seed.cls ≠ "java/lang/invoke/MethodHandle" ∧ yX8_seed.cls ≠ "java/lang/invoke/VarHandle" ∧ (parseMethodDescriptor yX8_seed.desc).map (fun d => d.parameters.length) = some 1 := by decide +kernel

noncomputable def fX8_keep (N : Nat) (ft_w : Nat → Int32) (ft_isKept : Nat → Int32) (x1 : Int32) : Option (Int32 × (Nat → Int32) × (Nat → Int32)) := bd (fX8_in N (Int32.toInt64 x1) 0 1) fun r1 => (if r1 = 0 then some ((-1000000001), ft_w, ft_isKept) else bd (fX8_copy N ft_w 0 (120 + (60 * x1))) fun g4 => ck x1 2 (some (1, g4, upd ft_isKept (Int32.toNatClampNeg x1) ((vp_nar .boolean 1)))))
set_option maxHeartbeats 4000000 in
set_option maxRecDepth 100000 in
theorem ctX8_keep (l : Launch) (D : va_G) (cI cZ cB cS : ClassId) (kK kV : Nat → Nat) (sz : Nat) (qt qt_w qt_isKept qt_value qt_weight qt_newTube qt_newPrice qt_newLow qt_newHigh qt_newGoods qt_rhythm qt_rhythmLong qt_slug qt_text qt_of qt_buyerColumn qt_buyerKind qt_buyerCoins qt_tryRow qt_tryLong qt_tryFree : Nat) (it_kinds : Int32) (it_columns : Int32) (it_slugs : Int32) (it_newKinds : Int32) (it_newColumns : Int32) (it_newSlugs : Int32) (it_rhythmTold : Int32) (it_textSize : Int32) (it_at : Int32) (it_first : Int32) (it_length : Int32) (it_faultOf : Int32) (it_fault : Int32) (it_buyerMany : Int32) (it_tryMany : Int32) (ft_w : Nat → Int32) (ft_isKept : Nat → Int32) (x1 : Int32) (N : Nat) (r0 : Int32) (w_ft_w : Nat → Int32) (w_ft_isKept : Nat → Int32) (h : fX8_keep N ft_w ft_isKept x1 = some (r0, w_ft_w, w_ft_isKept)) : CtI l yX8_keep wsX8_keep { frames := 1, cells := 0, slots := 0, locals := 25 } D (TY cI cZ cB cS) kK kV [.ref qt, .int x1] [(qt, .inr (8, [.ref qt_w, .ref qt_isKept, .ref qt_value, .ref qt_weight, .ref qt_newTube, .ref qt_newPrice, .ref qt_newLow, .ref qt_newHigh, .ref qt_newGoods, .ref qt_rhythm, .ref qt_rhythmLong, .ref qt_slug, .int it_kinds, .int it_columns, .int it_slugs, .int it_newKinds, .int it_newColumns, .int it_newSlugs, .int it_rhythmTold, .ref qt_text, .int it_textSize, .int it_at, .int it_first, .int it_length, .int it_faultOf, .int it_fault, .ref qt_of, .ref qt_buyerColumn, .ref qt_buyerKind, .ref qt_buyerCoins, .int it_buyerMany, .ref qt_tryRow, .ref qt_tryLong, .ref qt_tryFree, .int it_tryMany])), (qt_w, .inl (cI, 240, .inl ft_w)), (qt_isKept, .inl (cZ, 2, .inl ft_isKept))] [(qt, .inr (8, [.ref qt_w, .ref qt_isKept, .ref qt_value, .ref qt_weight, .ref qt_newTube, .ref qt_newPrice, .ref qt_newLow, .ref qt_newHigh, .ref qt_newGoods, .ref qt_rhythm, .ref qt_rhythmLong, .ref qt_slug, .int it_kinds, .int it_columns, .int it_slugs, .int it_newKinds, .int it_newColumns, .int it_newSlugs, .int it_rhythmTold, .ref qt_text, .int it_textSize, .int it_at, .int it_first, .int it_length, .int it_faultOf, .int it_fault, .ref qt_of, .ref qt_buyerColumn, .ref qt_buyerKind, .ref qt_buyerCoins, .int it_buyerMany, .ref qt_tryRow, .ref qt_tryLong, .ref qt_tryFree, .int it_tryMany])), (qt_w, .inl (cI, 240, .inl w_ft_w)), (qt_isKept, .inl (cZ, 2, .inl w_ft_isKept))] sz r0 := by
  refine mkI (cc := cX8_keep) (maxL := 2) (rt := .int) (own := RX8) (by decide) rfl rfl (Nat.le_of_ble_eq_true rfl) ?_
  intro p e s m args below meth c A Z ls hx hb hml hown hts hK hN hX hP hD hA hS hret hl
  have hl : lv_has ls 2 [(0, .ref qt), (1, .int x1)] := hl
  have fl13 : (Cond.fieldLink RX8 13 "SoupWallModel" "isKept" "[Z").before args s = true := hts _ (List.mem_of_getElem? (l := wsX8_keep) (i := 2) rfl)
  have hiX8 : ∀ w ∈ wsX80, w ∈ wsX8_keep := fun w h => List.mem_cons_of_mem _ (List.mem_append_right _ h)
  have cn193 : (Cond.constant RX8 193 (-1000000001)).before args s = true := hts _ (List.mem_of_getElem? (l := wsX8_keep) (i := 1) rfl)
  unfold fX8_keep at h
  refine lv_iload_n hx hb dX8_keep_0 rfl (lv_at hl 1 rfl) ?_
  refine lv_i2l (v := Int32.toInt64 x1) hx hb dX8_keep_1 rfl ?_
  refine lv_lconst (v := 0) hx hb dX8_keep_2 (by decide) ?_
  refine lv_lconst (v := 1) hx hb dX8_keep_3 (by decide) ?_
  replace h := bd_el h
  obtain ⟨r1, hc2, h⟩ := h
  refine callSI (rest := []) ⟨hx, hb, hml, hown, hts⟩ (ctX8_in l D cI cZ cB cS kK kV _ (Int32.toInt64 x1) 0 1 N r1 hc2) (va_cwS 3 hts gX8_keep_X8_in rfl rfl rfl hdX8_in ⟨Nat.le_of_ble_eq_true rfl, Nat.le_of_ble_eq_true rfl⟩) hK hN hX hP (dF hD rfl) hS hA [] mcN (by decide +kernel) [(qt, .inr (8, [.ref qt_w, .ref qt_isKept, .ref qt_value, .ref qt_weight, .ref qt_newTube, .ref qt_newPrice, .ref qt_newLow, .ref qt_newHigh, .ref qt_newGoods, .ref qt_rhythm, .ref qt_rhythmLong, .ref qt_slug, .int it_kinds, .int it_columns, .int it_slugs, .int it_newKinds, .int it_newColumns, .int it_newSlugs, .int it_rhythmTold, .ref qt_text, .int it_textSize, .int it_at, .int it_first, .int it_length, .int it_faultOf, .int it_fault, .ref qt_of, .ref qt_buyerColumn, .ref qt_buyerKind, .ref qt_buyerCoins, .int it_buyerMany, .ref qt_tryRow, .ref qt_tryLong, .ref qt_tryFree, .int it_tryMany])), (qt_w, .inl (cI, 240, .inl ft_w)), (qt_isKept, .inl (cZ, 2, .inl ft_isKept))] [0, 1, 2] mcN ((mcC rfl (mcC rfl (mcC rfl mcN))).trans (mcC rfl (mcC rfl (mcC rfl mcN))).symm) 3 rfl (by decide +kernel) rfl hl.1 rfl (Nat.le_of_ble_eq_true rfl) ⟨Nat.zero_le _, Nat.zero_le _⟩ dX8_keep_4 (fun H locs hP hS => ?_)
  refine lv_if_ne (tgt := 13) hx hb dX8_keep_7 (by decide) (fun c3 => ?_) (fun c3 => ?_)
  · replace h := if_f c3 h
    refine lv_aload_n hx hb dX8_keep_13 rfl (lv_at hl 0 rfl) ?_
    refine lv_iconst (v := 0) hx hb dX8_keep_14 (by decide) ?_
    refine lv_bipush (v := 120) hx hb dX8_keep_15 (by decide) ?_
    refine lv_bipush (v := 60) hx hb dX8_keep_17 (by decide) ?_
    refine lv_iload_n hx hb dX8_keep_19 rfl (lv_at hl 1 rfl) ?_
    refine lv_imul hx hb dX8_keep_20 ?_
    refine lv_iadd hx hb dX8_keep_21 ?_
    replace h := bd_el h
    obtain ⟨g4, hc5, h⟩ := h
    refine callVV (rest := []) ⟨hx, hb, hml, hown, hts⟩ (ctX8_copy l D cI cZ cB cS kK kV _ qt qt_w qt_isKept qt_value qt_weight qt_newTube qt_newPrice qt_newLow qt_newHigh qt_newGoods qt_rhythm qt_rhythmLong qt_slug qt_text qt_of qt_buyerColumn qt_buyerKind qt_buyerCoins qt_tryRow qt_tryLong qt_tryFree it_kinds it_columns it_slugs it_newKinds it_newColumns it_newSlugs it_rhythmTold it_textSize it_at it_first it_length it_faultOf it_fault it_buyerMany it_tryMany ft_w 0 (120 + (60 * x1)) N g4 hc5) (cwV 2 hts gX8_keep_X8_copy rfl rfl rfl hdX8_copy ⟨Nat.le_of_ble_eq_true rfl, Nat.le_of_ble_eq_true rfl⟩) hK hN hX hP (dF hD rfl) hS hA [0, 1] (mcC rfl (mcC rfl mcN)) (by decide +kernel) [(qt, .inr (8, [.ref qt_w, .ref qt_isKept, .ref qt_value, .ref qt_weight, .ref qt_newTube, .ref qt_newPrice, .ref qt_newLow, .ref qt_newHigh, .ref qt_newGoods, .ref qt_rhythm, .ref qt_rhythmLong, .ref qt_slug, .int it_kinds, .int it_columns, .int it_slugs, .int it_newKinds, .int it_newColumns, .int it_newSlugs, .int it_rhythmTold, .ref qt_text, .int it_textSize, .int it_at, .int it_first, .int it_length, .int it_faultOf, .int it_fault, .ref qt_of, .ref qt_buyerColumn, .ref qt_buyerKind, .ref qt_buyerCoins, .int it_buyerMany, .ref qt_tryRow, .ref qt_tryLong, .ref qt_tryFree, .int it_tryMany])), (qt_w, .inl (cI, 240, .inl g4)), (qt_isKept, .inl (cZ, 2, .inl ft_isKept))] [2] (mcC rfl (mcC rfl mcN)) ((mcC rfl mcN).trans (mcC rfl mcN).symm) 3 rfl (by decide +kernel) (va_recv hK hP (ci := 8) (q0 := 0) rfl rfl) rfl hl.1 rfl (Nat.le_of_ble_eq_true rfl) ⟨Nat.zero_le _, Nat.zero_le _⟩ dX8_keep_22 (fun H locs hP hS => ?_)
    refine lv_aload_n hx hb dX8_keep_25 rfl (lv_at hl 0 rfl) ?_
    refine va_get (ci := 8) (v := .ref qt_isKept) (C := RX8) (T := TX8) (N := 35) hx hb hts hiX8 hown hK hP 0 rfl rfl 1 (by decide) fl13 (fun _ h9 => h9) rfl dX8_keep_26 ?_
    refine lv_iload_n hx hb dX8_keep_29 rfl (lv_at hl 1 rfl) ?_
    refine lv_iconst (v := 1) hx hb dX8_keep_30 (by decide) ?_
    replace h := ck_el h
    obtain ⟨hi6, h⟩ := h
    refine va_zast hx hb hK hP (dF hD rfl) hS 2 1 rfl rfl hi6 dX8_keep_31 (fun H locs hP _ hS => ?_)
    replace hP : va_P D vwCl [(qt, .inr (8, [.ref qt_w, .ref qt_isKept, .ref qt_value, .ref qt_weight, .ref qt_newTube, .ref qt_newPrice, .ref qt_newLow, .ref qt_newHigh, .ref qt_newGoods, .ref qt_rhythm, .ref qt_rhythmLong, .ref qt_slug, .int it_kinds, .int it_columns, .int it_slugs, .int it_newKinds, .int it_newColumns, .int it_newSlugs, .int it_rhythmTold, .ref qt_text, .int it_textSize, .int it_at, .int it_first, .int it_length, .int it_faultOf, .int it_fault, .ref qt_of, .ref qt_buyerColumn, .ref qt_buyerKind, .ref qt_buyerCoins, .int it_buyerMany, .ref qt_tryRow, .ref qt_tryLong, .ref qt_tryFree, .int it_tryMany])), (qt_w, .inl (cI, 240, .inl g4)), (qt_isKept, .inl (cZ, 2, .inl (upd ft_isKept (Int32.toNatClampNeg x1) ((vp_nar .boolean 1)))))] H := hP
    refine lv_iconst (v := 1) hx hb dX8_keep_32 (by decide) ?_
    simp only [Option.some.injEq, Prod.mk.injEq] at h
    obtain ⟨rfl, rfl, rfl⟩ := h
    exact hret _ _ _ _ hP hS rfl dX8_keep_33
  · replace h := if_t c3 h
    refine lv_ldc (v := (-1000000001)) hx hb hown cn193 dX8_keep_10 ?_
    simp only [Option.some.injEq, Prod.mk.injEq] at h
    obtain ⟨rfl, rfl, rfl⟩ := h
    exact hret _ _ _ _ hP hS rfl dX8_keep_12
theorem hdX8_keep : yX8_keep.cls = RX8 ∧ yX8_keep.cls ≠ "java/lang/invoke/MethodHandle" ∧ yX8_keep.cls ≠ "java/lang/invoke/VarHandle" ∧ (parseMethodDescriptor yX8_keep.desc).map (fun d => d.parameters.length) = some 1 := by decide +kernel

noncomputable def fX8_goBack (N : Nat) (ft_isKept : Nat → Int32) (ft_w : Nat → Int32) (x1 : Int32) : Option (Int32 × (Nat → Int32)) := bd (fX8_in N (Int32.toInt64 x1) 0 1) fun r1 => (if r1 = 0 then some ((-1000000001), ft_w) else ck x1 2 ((if (ft_isKept (Int32.toNatClampNeg x1)) = 0 then some ((-1000000003), ft_w) else bd (fX8_copy N ft_w (120 + (60 * x1)) 0) fun g6 => some (1, g6))))
set_option maxHeartbeats 4000000 in
set_option maxRecDepth 100000 in
theorem ctX8_goBack (l : Launch) (D : va_G) (cI cZ cB cS : ClassId) (kK kV : Nat → Nat) (sz : Nat) (qt qt_w qt_isKept qt_value qt_weight qt_newTube qt_newPrice qt_newLow qt_newHigh qt_newGoods qt_rhythm qt_rhythmLong qt_slug qt_text qt_of qt_buyerColumn qt_buyerKind qt_buyerCoins qt_tryRow qt_tryLong qt_tryFree : Nat) (it_kinds : Int32) (it_columns : Int32) (it_slugs : Int32) (it_newKinds : Int32) (it_newColumns : Int32) (it_newSlugs : Int32) (it_rhythmTold : Int32) (it_textSize : Int32) (it_at : Int32) (it_first : Int32) (it_length : Int32) (it_faultOf : Int32) (it_fault : Int32) (it_buyerMany : Int32) (it_tryMany : Int32) (ft_isKept : Nat → Int32) (ft_w : Nat → Int32) (x1 : Int32) (N : Nat) (r0 : Int32) (w_ft_w : Nat → Int32) (h : fX8_goBack N ft_isKept ft_w x1 = some (r0, w_ft_w)) : CtI l yX8_goBack wsX8_goBack { frames := 1, cells := 0, slots := 0, locals := 25 } D (TY cI cZ cB cS) kK kV [.ref qt, .int x1] [(qt, .inr (8, [.ref qt_w, .ref qt_isKept, .ref qt_value, .ref qt_weight, .ref qt_newTube, .ref qt_newPrice, .ref qt_newLow, .ref qt_newHigh, .ref qt_newGoods, .ref qt_rhythm, .ref qt_rhythmLong, .ref qt_slug, .int it_kinds, .int it_columns, .int it_slugs, .int it_newKinds, .int it_newColumns, .int it_newSlugs, .int it_rhythmTold, .ref qt_text, .int it_textSize, .int it_at, .int it_first, .int it_length, .int it_faultOf, .int it_fault, .ref qt_of, .ref qt_buyerColumn, .ref qt_buyerKind, .ref qt_buyerCoins, .int it_buyerMany, .ref qt_tryRow, .ref qt_tryLong, .ref qt_tryFree, .int it_tryMany])), (qt_isKept, .inl (cZ, 2, .inl ft_isKept)), (qt_w, .inl (cI, 240, .inl ft_w))] [(qt, .inr (8, [.ref qt_w, .ref qt_isKept, .ref qt_value, .ref qt_weight, .ref qt_newTube, .ref qt_newPrice, .ref qt_newLow, .ref qt_newHigh, .ref qt_newGoods, .ref qt_rhythm, .ref qt_rhythmLong, .ref qt_slug, .int it_kinds, .int it_columns, .int it_slugs, .int it_newKinds, .int it_newColumns, .int it_newSlugs, .int it_rhythmTold, .ref qt_text, .int it_textSize, .int it_at, .int it_first, .int it_length, .int it_faultOf, .int it_fault, .ref qt_of, .ref qt_buyerColumn, .ref qt_buyerKind, .ref qt_buyerCoins, .int it_buyerMany, .ref qt_tryRow, .ref qt_tryLong, .ref qt_tryFree, .int it_tryMany])), (qt_isKept, .inl (cZ, 2, .inl ft_isKept)), (qt_w, .inl (cI, 240, .inl w_ft_w))] sz r0 := by
  refine mkI (cc := cX8_goBack) (maxL := 2) (rt := .int) (own := RX8) (by decide) rfl rfl (Nat.le_of_ble_eq_true rfl) ?_
  intro p e s m args below meth c A Z ls hx hb hml hown hts hK hN hX hP hD hA hS hret hl
  have hl : lv_has ls 2 [(0, .ref qt), (1, .int x1)] := hl
  have fl13 : (Cond.fieldLink RX8 13 "SoupWallModel" "isKept" "[Z").before args s = true := hts _ (List.mem_of_getElem? (l := wsX8_goBack) (i := 2) rfl)
  have hiX8 : ∀ w ∈ wsX80, w ∈ wsX8_goBack := fun w h => List.mem_cons_of_mem _ (List.mem_append_right _ h)
  have cn228 : (Cond.constant RX8 228 (-1000000003)).before args s = true := hts _ (List.mem_of_getElem? (l := wsX8_goBack) (i := 3) rfl)
  have cn193 : (Cond.constant RX8 193 (-1000000001)).before args s = true := hts _ (List.mem_of_getElem? (l := wsX8_goBack) (i := 1) rfl)
  unfold fX8_goBack at h
  refine lv_iload_n hx hb dX8_goBack_0 rfl (lv_at hl 1 rfl) ?_
  refine lv_i2l (v := Int32.toInt64 x1) hx hb dX8_goBack_1 rfl ?_
  refine lv_lconst (v := 0) hx hb dX8_goBack_2 (by decide) ?_
  refine lv_lconst (v := 1) hx hb dX8_goBack_3 (by decide) ?_
  replace h := bd_el h
  obtain ⟨r1, hc2, h⟩ := h
  refine callSI (rest := []) ⟨hx, hb, hml, hown, hts⟩ (ctX8_in l D cI cZ cB cS kK kV _ (Int32.toInt64 x1) 0 1 N r1 hc2) (va_cwS 3 hts gX8_goBack_X8_in rfl rfl rfl hdX8_in ⟨Nat.le_of_ble_eq_true rfl, Nat.le_of_ble_eq_true rfl⟩) hK hN hX hP (dF hD rfl) hS hA [] mcN (by decide +kernel) [(qt, .inr (8, [.ref qt_w, .ref qt_isKept, .ref qt_value, .ref qt_weight, .ref qt_newTube, .ref qt_newPrice, .ref qt_newLow, .ref qt_newHigh, .ref qt_newGoods, .ref qt_rhythm, .ref qt_rhythmLong, .ref qt_slug, .int it_kinds, .int it_columns, .int it_slugs, .int it_newKinds, .int it_newColumns, .int it_newSlugs, .int it_rhythmTold, .ref qt_text, .int it_textSize, .int it_at, .int it_first, .int it_length, .int it_faultOf, .int it_fault, .ref qt_of, .ref qt_buyerColumn, .ref qt_buyerKind, .ref qt_buyerCoins, .int it_buyerMany, .ref qt_tryRow, .ref qt_tryLong, .ref qt_tryFree, .int it_tryMany])), (qt_isKept, .inl (cZ, 2, .inl ft_isKept)), (qt_w, .inl (cI, 240, .inl ft_w))] [0, 1, 2] mcN ((mcC rfl (mcC rfl (mcC rfl mcN))).trans (mcC rfl (mcC rfl (mcC rfl mcN))).symm) 3 rfl (by decide +kernel) rfl hl.1 rfl (Nat.le_of_ble_eq_true rfl) ⟨Nat.zero_le _, Nat.zero_le _⟩ dX8_goBack_4 (fun H locs hP hS => ?_)
  refine lv_if_ne (tgt := 13) hx hb dX8_goBack_7 (by decide) (fun c3 => ?_) (fun c3 => ?_)
  · replace h := if_f c3 h
    refine lv_aload_n hx hb dX8_goBack_13 rfl (lv_at hl 0 rfl) ?_
    refine va_get (ci := 8) (v := .ref qt_isKept) (C := RX8) (T := TX8) (N := 35) hx hb hts hiX8 hown hK hP 0 rfl rfl 1 (by decide) fl13 (fun _ h9 => h9) rfl dX8_goBack_14 ?_
    refine lv_iload_n hx hb dX8_goBack_17 rfl (lv_at hl 1 rfl) ?_
    replace h := ck_el h
    obtain ⟨hi4, h⟩ := h
    refine va_zald hx hb hK hP 1 1 rfl rfl hi4 dX8_goBack_18 ?_
    refine lv_if_ne (tgt := 25) hx hb dX8_goBack_19 (by decide) (fun c5 => ?_) (fun c5 => ?_)
    · replace h := if_f c5 h
      refine lv_aload_n hx hb dX8_goBack_25 rfl (lv_at hl 0 rfl) ?_
      refine lv_bipush (v := 120) hx hb dX8_goBack_26 (by decide) ?_
      refine lv_bipush (v := 60) hx hb dX8_goBack_28 (by decide) ?_
      refine lv_iload_n hx hb dX8_goBack_30 rfl (lv_at hl 1 rfl) ?_
      refine lv_imul hx hb dX8_goBack_31 ?_
      refine lv_iadd hx hb dX8_goBack_32 ?_
      refine lv_iconst (v := 0) hx hb dX8_goBack_33 (by decide) ?_
      replace h := bd_el h
      obtain ⟨g6, hc7, h⟩ := h
      refine callVV (rest := []) ⟨hx, hb, hml, hown, hts⟩ (ctX8_copy l D cI cZ cB cS kK kV _ qt qt_w qt_isKept qt_value qt_weight qt_newTube qt_newPrice qt_newLow qt_newHigh qt_newGoods qt_rhythm qt_rhythmLong qt_slug qt_text qt_of qt_buyerColumn qt_buyerKind qt_buyerCoins qt_tryRow qt_tryLong qt_tryFree it_kinds it_columns it_slugs it_newKinds it_newColumns it_newSlugs it_rhythmTold it_textSize it_at it_first it_length it_faultOf it_fault it_buyerMany it_tryMany ft_w (120 + (60 * x1)) 0 N g6 hc7) (cwV 2 hts gX8_goBack_X8_copy rfl rfl rfl hdX8_copy ⟨Nat.le_of_ble_eq_true rfl, Nat.le_of_ble_eq_true rfl⟩) hK hN hX hP (dF hD rfl) hS hA [0, 2] (mcC rfl (mcC rfl mcN)) (by decide +kernel) [(qt, .inr (8, [.ref qt_w, .ref qt_isKept, .ref qt_value, .ref qt_weight, .ref qt_newTube, .ref qt_newPrice, .ref qt_newLow, .ref qt_newHigh, .ref qt_newGoods, .ref qt_rhythm, .ref qt_rhythmLong, .ref qt_slug, .int it_kinds, .int it_columns, .int it_slugs, .int it_newKinds, .int it_newColumns, .int it_newSlugs, .int it_rhythmTold, .ref qt_text, .int it_textSize, .int it_at, .int it_first, .int it_length, .int it_faultOf, .int it_fault, .ref qt_of, .ref qt_buyerColumn, .ref qt_buyerKind, .ref qt_buyerCoins, .int it_buyerMany, .ref qt_tryRow, .ref qt_tryLong, .ref qt_tryFree, .int it_tryMany])), (qt_isKept, .inl (cZ, 2, .inl ft_isKept)), (qt_w, .inl (cI, 240, .inl g6))] [1] (mcC rfl (mcC rfl mcN)) ((mcC rfl mcN).trans (mcC rfl mcN).symm) 3 rfl (by decide +kernel) (va_recv hK hP (ci := 8) (q0 := 0) rfl rfl) rfl hl.1 rfl (Nat.le_of_ble_eq_true rfl) ⟨Nat.zero_le _, Nat.zero_le _⟩ dX8_goBack_34 (fun H locs hP hS => ?_)
      refine lv_iconst (v := 1) hx hb dX8_goBack_37 (by decide) ?_
      simp only [Option.some.injEq, Prod.mk.injEq] at h
      obtain ⟨rfl, rfl⟩ := h
      exact hret _ _ _ _ hP hS rfl dX8_goBack_38
    · replace h := if_t c5 h
      refine lv_ldc (v := (-1000000003)) hx hb hown cn228 dX8_goBack_22 ?_
      simp only [Option.some.injEq, Prod.mk.injEq] at h
      obtain ⟨rfl, rfl⟩ := h
      exact hret _ _ _ _ hP hS rfl dX8_goBack_24
  · replace h := if_t c3 h
    refine lv_ldc (v := (-1000000001)) hx hb hown cn193 dX8_goBack_10 ?_
    simp only [Option.some.injEq, Prod.mk.injEq] at h
    obtain ⟨rfl, rfl⟩ := h
    exact hret _ _ _ _ hP hS rfl dX8_goBack_12
theorem hdX8_goBack : yX8_goBack.cls = RX8 ∧ yX8_goBack.cls ≠ "java/lang/invoke/MethodHandle" ∧ yX8_goBack.cls ≠ "java/lang/invoke/VarHandle" ∧ (parseMethodDescriptor yX8_goBack.desc).map (fun d => d.parameters.length) = some 1 := by decide +kernel
