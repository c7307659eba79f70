noncomputable def fX8_isAsNow_L42 (N : Nat) : Nat → Int32 → Int32 → (Nat → Int32) → Option (Int32)
  | 0, _, _, _ => none
  | k + 1, x1, x2, ft_w => (if 10 ≤ x2 then some x1 else (if x1 = 0 then lt (x2 + 1) fun n3 => fX8_isAsNow_L42 N k 0 n3 ft_w else ck x2 240 (ck (60 + x2) 240 ((if (ft_w (Int32.toNatClampNeg x2)) = (ft_w (Int32.toNatClampNeg (60 + x2))) then lt (x2 + 1) fun n8 => fX8_isAsNow_L42 N k 1 n8 ft_w else lt (x2 + 1) fun n7 => fX8_isAsNow_L42 N k 0 n7 ft_w)))))
theorem fX8_isAsNow_L42_s (N : Nat) (k : Nat) (x1 : Int32) (x2 : Int32) (ft_w : Nat → Int32) : fX8_isAsNow_L42 N (k + 1) x1 x2 ft_w = ((if 10 ≤ x2 then some x1 else (if x1 = 0 then lt (x2 + 1) fun n3 => fX8_isAsNow_L42 N k 0 n3 ft_w else ck x2 240 (ck (60 + x2) 240 ((if (ft_w (Int32.toNatClampNeg x2)) = (ft_w (Int32.toNatClampNeg (60 + x2))) then lt (x2 + 1) fun n8 => fX8_isAsNow_L42 N k 1 n8 ft_w else lt (x2 + 1) fun n7 => fX8_isAsNow_L42 N k 0 n7 ft_w)))))) := rfl
noncomputable def fX8_isAsNow (N : Nat) (ft_w : Nat → Int32) : Option (Int32) := ck 45 240 (ck 105 240 ((if (ft_w (Int32.toNatClampNeg 45)) = (ft_w (Int32.toNatClampNeg 105)) then ck 46 240 (ck 106 240 ((if (ft_w (Int32.toNatClampNeg 46)) = (ft_w (Int32.toNatClampNeg 106)) then bd (fX8_isAsNow_L42 N N 1 0 ft_w) fun n22 => bl n22 (some n22) else bd (fX8_isAsNow_L42 N N 0 0 ft_w) fun n19 => bl n19 (some n19)))) else bd (fX8_isAsNow_L42 N N 0 0 ft_w) fun n13 => bl n13 (some n13))))
set_option maxHeartbeats 4000000 in
set_option maxRecDepth 100000 in
theorem ctX8_isAsNow (l : Launch) (D : va_G) (cI cZ cB cS : ClassId) (kK kV : Nat → Nat) (sz : Nat) (qt qt_w qt_isKept qt_value qt_weight qt_newTube qt_newPrice qt_newLow qt_newHigh qt_newGoods qt_rhythm qt_rhythmLong qt_slug qt_text qt_of qt_buyerColumn qt_buyerKind qt_buyerCoins qt_tryRow qt_tryLong qt_tryFree : Nat) (it_kinds : Int32) (it_columns : Int32) (it_slugs : Int32) (it_newKinds : Int32) (it_newColumns : Int32) (it_newSlugs : Int32) (it_rhythmTold : Int32) (it_textSize : Int32) (it_at : Int32) (it_first : Int32) (it_length : Int32) (it_faultOf : Int32) (it_fault : Int32) (it_buyerMany : Int32) (it_tryMany : Int32) (ft_w : Nat → Int32)  (N : Nat) (r0 : Int32)  (h : fX8_isAsNow N ft_w = some r0) : CtI l yX8_isAsNow wsX8_isAsNow { frames := 0, cells := 0, slots := 0, locals := 0 } D (TY cI cZ cB cS) kK kV [.ref qt] [(qt, .inr (8, [.ref qt_w, .ref qt_isKept, .ref qt_value, .ref qt_weight, .ref qt_newTube, .ref qt_newPrice, .ref qt_newLow, .ref qt_newHigh, .ref qt_newGoods, .ref qt_rhythm, .ref qt_rhythmLong, .ref qt_slug, .int it_kinds, .int it_columns, .int it_slugs, .int it_newKinds, .int it_newColumns, .int it_newSlugs, .int it_rhythmTold, .ref qt_text, .int it_textSize, .int it_at, .int it_first, .int it_length, .int it_faultOf, .int it_fault, .ref qt_of, .ref qt_buyerColumn, .ref qt_buyerKind, .ref qt_buyerCoins, .int it_buyerMany, .ref qt_tryRow, .ref qt_tryLong, .ref qt_tryFree, .int it_tryMany])), (qt_w, .inl (cI, 240, .inl ft_w))] [(qt, .inr (8, [.ref qt_w, .ref qt_isKept, .ref qt_value, .ref qt_weight, .ref qt_newTube, .ref qt_newPrice, .ref qt_newLow, .ref qt_newHigh, .ref qt_newGoods, .ref qt_rhythm, .ref qt_rhythmLong, .ref qt_slug, .int it_kinds, .int it_columns, .int it_slugs, .int it_newKinds, .int it_newColumns, .int it_newSlugs, .int it_rhythmTold, .ref qt_text, .int it_textSize, .int it_at, .int it_first, .int it_length, .int it_faultOf, .int it_fault, .ref qt_of, .ref qt_buyerColumn, .ref qt_buyerKind, .ref qt_buyerCoins, .int it_buyerMany, .ref qt_tryRow, .ref qt_tryLong, .ref qt_tryFree, .int it_tryMany])), (qt_w, .inl (cI, 240, .inl ft_w))] sz r0 := by
  refine mkI (cc := cX8_isAsNow) (maxL := 3) (rt := .boolean) (own := RX8) (by decide) rfl rfl (Nat.le_of_ble_eq_true rfl) ?_
  intro p e s m args below meth c A Z ls hx hb hml hown hts hK hN hX hP hD hA hS hret hl
  have hl : lv_has ls 3 [(0, .ref qt)] := hl
  have fl7 : (Cond.fieldLink RX8 7 "SoupWallModel" "w" "[I").before args s = true := hts _ (List.mem_of_getElem? (l := wsX8_isAsNow) (i := 1) rfl)
  have hiX8 : ∀ w ∈ wsX80, w ∈ wsX8_isAsNow := fun w h => List.mem_cons_of_mem _ (List.mem_append_right _ h)
  have lp42 : ∀ (k : Nat) (x1 : Int32) (x2 : Int32)  (H : Heap) (locs : List Loc) (ls : Array Slot) (o : Int32), fX8_isAsNow_L42 N k x1 x2 ft_w = some o → va_P D vwCl [(qt, .inr (8, [.ref qt_w, .ref qt_isKept, .ref qt_value, .ref qt_weight, .ref qt_newTube, .ref qt_newPrice, .ref qt_newLow, .ref qt_newHigh, .ref qt_newGoods, .ref qt_rhythm, .ref qt_rhythmLong, .ref qt_slug, .int it_kinds, .int it_columns, .int it_slugs, .int it_newKinds, .int it_newColumns, .int it_newSlugs, .int it_rhythmTold, .ref qt_text, .int it_textSize, .int it_at, .int it_first, .int it_length, .int it_faultOf, .int it_fault, .ref qt_of, .ref qt_buyerColumn, .ref qt_buyerKind, .ref qt_buyerCoins, .int it_buyerMany, .ref qt_tryRow, .ref qt_tryLong, .ref qt_tryFree, .int it_tryMany])), (qt_w, .inl (cI, 240, .inl ft_w))] H → va_S A s.heap H locs → lv_has ls 3 [(0, .ref qt), (1, .int x1), (2, .int x2)] → (∀ (e1 : Int32), e1 = o → ∀ (H : Heap) (locs : List Loc) (ls : Array Slot), va_P D vwCl [(qt, .inr (8, [.ref qt_w, .ref qt_isKept, .ref qt_value, .ref qt_weight, .ref qt_newTube, .ref qt_newPrice, .ref qt_newLow, .ref qt_newHigh, .ref qt_newGoods, .ref qt_rhythm, .ref qt_rhythmLong, .ref qt_slug, .int it_kinds, .int it_columns, .int it_slugs, .int it_newKinds, .int it_newColumns, .int it_newSlugs, .int it_rhythmTold, .ref qt_text, .int it_textSize, .int it_at, .int it_first, .int it_length, .int it_faultOf, .int it_fault, .ref qt_of, .ref qt_buyerColumn, .ref qt_buyerKind, .ref qt_buyerCoins, .int it_buyerMany, .ref qt_tryRow, .ref qt_tryLong, .ref qt_tryFree, .int it_tryMany])), (qt_w, .inl (cI, 240, .inl ft_w))] H → va_S A s.heap H locs → lv_has ls 3 [(1, .int e1)] → W p l e ({ frames := 0, cells := 0, slots := 0, locals := 0 } : Room) s m args below meth c H locs 0 0 Z (F0 m 82 ls [])) → W p l e ({ frames := 0, cells := 0, slots := 0, locals := 0 } : Room) s m args below meth c H locs 0 0 Z (F0 m 42 ls []) := by
    intro k
    induction k with
    | zero =>
      intro x1 x2 H locs ls o h
      exact nomatch (show (none : Option (Int32)) = some o from h)
    | succ k ih =>
      intro x1 x2 H locs ls o h hP hS hl K
      rw [fX8_isAsNow_L42_s] at h
      refine lv_iload_n hx hb dX8_isAsNow_42 rfl (lv_at hl 2 rfl) ?_
      refine lv_bipush (v := 10) hx hb dX8_isAsNow_43 (by decide) ?_
      refine lv_icmp_ge (tgt := 82) hx hb dX8_isAsNow_45 (by decide) (fun c1 => ?_) (fun c1 => ?_)
      · replace h := if_t c1 h
        exact K x1 (Option.some.inj h) _ _ _ hP hS (lv_sub hl [1] rfl)
      · replace h := if_f c1 h
        refine lv_iload_n hx hb dX8_isAsNow_48 rfl (lv_at hl 1 rfl) ?_
        refine lv_if_eq (tgt := 74) hx hb dX8_isAsNow_49 (by decide) (fun c2 => ?_) (fun c2 => ?_)
        · replace h := if_t c2 h
          refine lv_iconst (v := 0) hx hb dX8_isAsNow_74 (by decide) ?_
          refine lv_istore_n (lv' := [(1, .int 0), (0, .ref qt), (2, .int x2)]) hx hb dX8_isAsNow_75 rfl hl (by decide) rfl (fun ls hl => ?_)
          obtain ⟨n3, en3⟩ : ∃ z : Int32, z = x2 + 1 := ⟨_, rfl⟩
          replace h := lt_at en3 h
          refine lv_iinc (v := n3) (lv' := [(2, .int n3), (1, .int 0), (0, .ref qt)]) hx hb dX8_isAsNow_76 hl (k := 2) rfl (by rw [en3]; rfl) (by decide) rfl (fun ls hl => ?_)
          refine lv_goto (tgt := 42) hx hb dX8_isAsNow_79 (by decide) ?_
          exact ih 0 n3 _ _ _ o h hP hS (lv_sub hl [2, 1, 0] rfl) K
        · replace h := if_f c2 h
          refine lv_aload_n hx hb dX8_isAsNow_52 rfl (lv_at hl 0 rfl) ?_
          refine va_get (ci := 8) (v := .ref qt_w) (C := RX8) (T := TX8) (N := 35) hx hb hts hiX8 hown hK hP 0 rfl rfl 0 (by decide) fl7 (fun _ h9 => h9) rfl dX8_isAsNow_53 ?_
          refine lv_iload_n hx hb dX8_isAsNow_56 rfl (lv_at hl 2 rfl) ?_
          replace h := ck_el h
          obtain ⟨hi4, h⟩ := h
          refine va_iald hx hb hK hP 1 0 rfl rfl hi4 dX8_isAsNow_57 ?_
          refine lv_aload_n hx hb dX8_isAsNow_58 rfl (lv_at hl 0 rfl) ?_
          refine va_get (ci := 8) (v := .ref qt_w) (C := RX8) (T := TX8) (N := 35) hx hb hts hiX8 hown hK hP 0 rfl rfl 0 (by decide) fl7 (fun _ h9 => h9) rfl dX8_isAsNow_59 ?_
          refine lv_bipush (v := 60) hx hb dX8_isAsNow_62 (by decide) ?_
          refine lv_iload_n hx hb dX8_isAsNow_64 rfl (lv_at hl 2 rfl) ?_
          refine lv_iadd hx hb dX8_isAsNow_65 ?_
          replace h := ck_el h
          obtain ⟨hi5, h⟩ := h
          refine va_iald hx hb hK hP 1 0 rfl rfl hi5 dX8_isAsNow_66 ?_
          refine lv_icmp_ne (tgt := 74) hx hb dX8_isAsNow_67 (by decide) (fun c6 => ?_) (fun c6 => ?_)
          · replace h := if_f c6 h
            refine lv_iconst (v := 0) hx hb dX8_isAsNow_74 (by decide) ?_
            refine lv_istore_n (lv' := [(1, .int 0), (0, .ref qt), (2, .int x2)]) hx hb dX8_isAsNow_75 rfl hl (by decide) rfl (fun ls hl => ?_)
            obtain ⟨n7, en7⟩ : ∃ z : Int32, z = x2 + 1 := ⟨_, rfl⟩
            replace h := lt_at en7 h
            refine lv_iinc (v := n7) (lv' := [(2, .int n7), (1, .int 0), (0, .ref qt)]) hx hb dX8_isAsNow_76 hl (k := 2) rfl (by rw [en7]; rfl) (by decide) rfl (fun ls hl => ?_)
            refine lv_goto (tgt := 42) hx hb dX8_isAsNow_79 (by decide) ?_
            exact ih 0 n7 _ _ _ o h hP hS (lv_sub hl [2, 1, 0] rfl) K
          · replace h := if_t c6 h
            refine lv_iconst (v := 1) hx hb dX8_isAsNow_70 (by decide) ?_
            refine lv_goto (tgt := 75) hx hb dX8_isAsNow_71 (by decide) ?_
            refine lv_istore_n (lv' := [(1, .int 1), (0, .ref qt), (2, .int x2)]) hx hb dX8_isAsNow_75 rfl hl (by decide) rfl (fun ls hl => ?_)
            obtain ⟨n8, en8⟩ : ∃ z : Int32, z = x2 + 1 := ⟨_, rfl⟩
            replace h := lt_at en8 h
            refine lv_iinc (v := n8) (lv' := [(2, .int n8), (1, .int 1), (0, .ref qt)]) hx hb dX8_isAsNow_76 hl (k := 2) rfl (by rw [en8]; rfl) (by decide) rfl (fun ls hl => ?_)
            refine lv_goto (tgt := 42) hx hb dX8_isAsNow_79 (by decide) ?_
            exact ih 1 n8 _ _ _ o h hP hS (lv_sub hl [2, 1, 0] rfl) K
  unfold fX8_isAsNow at h
  refine lv_aload_n hx hb dX8_isAsNow_0 rfl (lv_at hl 0 rfl) ?_
  refine va_get (ci := 8) (v := .ref qt_w) (C := RX8) (T := TX8) (N := 35) hx hb hts hiX8 hown hK hP 0 rfl rfl 0 (by decide) fl7 (fun _ h9 => h9) rfl dX8_isAsNow_1 ?_
  refine lv_bipush (v := 45) hx hb dX8_isAsNow_4 (by decide) ?_
  replace h := ck_el h
  obtain ⟨hi9, h⟩ := h
  refine va_iald hx hb hK hP 1 0 rfl rfl hi9 dX8_isAsNow_6 ?_
  refine lv_aload_n hx hb dX8_isAsNow_7 rfl (lv_at hl 0 rfl) ?_
  refine va_get (ci := 8) (v := .ref qt_w) (C := RX8) (T := TX8) (N := 35) hx hb hts hiX8 hown hK hP 0 rfl rfl 0 (by decide) fl7 (fun _ h9 => h9) rfl dX8_isAsNow_8 ?_
  refine lv_bipush (v := 105) hx hb dX8_isAsNow_11 (by decide) ?_
  replace h := ck_el h
  obtain ⟨hi10, h⟩ := h
  refine va_iald hx hb hK hP 1 0 rfl rfl hi10 dX8_isAsNow_13 ?_
  refine lv_icmp_ne (tgt := 38) hx hb dX8_isAsNow_14 (by decide) (fun c11 => ?_) (fun c11 => ?_)
  · replace h := if_f c11 h
    refine lv_iconst (v := 0) hx hb dX8_isAsNow_38 (by decide) ?_
    refine lv_istore_n (lv' := [(1, .int 0), (0, .ref qt)]) hx hb dX8_isAsNow_39 rfl hl (by decide) rfl (fun ls hl => ?_)
    refine lv_iconst (v := 0) hx hb dX8_isAsNow_40 (by decide) ?_
    refine lv_istore_n (lv' := [(2, .int 0), (1, .int 0), (0, .ref qt)]) hx hb dX8_isAsNow_41 rfl hl (by decide) rfl (fun ls hl => ?_)
    replace h := bd_el h
    obtain ⟨o12, ho12, h⟩ := h
    refine lp42 N 0 0 _ _ _ o12 ho12 hP hS (lv_sub hl [2, 1, 0] rfl) (fun n13 eo H locs ls hP hS hl => ?_)
    subst eo
    refine lv_iload_n hx hb dX8_isAsNow_82 rfl (lv_at hl 0 rfl) ?_
    replace h := bl_el h
    obtain ⟨hn14, h⟩ := h
    simp only [Option.some.injEq] at h
    subst h
    exact hret _ _ _ _ hP hS hn14 dX8_isAsNow_83
  · replace h := if_t c11 h
    refine lv_aload_n hx hb dX8_isAsNow_17 rfl (lv_at hl 0 rfl) ?_
    refine va_get (ci := 8) (v := .ref qt_w) (C := RX8) (T := TX8) (N := 35) hx hb hts hiX8 hown hK hP 0 rfl rfl 0 (by decide) fl7 (fun _ h9 => h9) rfl dX8_isAsNow_18 ?_
    refine lv_bipush (v := 46) hx hb dX8_isAsNow_21 (by decide) ?_
    replace h := ck_el h
    obtain ⟨hi15, h⟩ := h
    refine va_iald hx hb hK hP 1 0 rfl rfl hi15 dX8_isAsNow_23 ?_
    refine lv_aload_n hx hb dX8_isAsNow_24 rfl (lv_at hl 0 rfl) ?_
    refine va_get (ci := 8) (v := .ref qt_w) (C := RX8) (T := TX8) (N := 35) hx hb hts hiX8 hown hK hP 0 rfl rfl 0 (by decide) fl7 (fun _ h9 => h9) rfl dX8_isAsNow_25 ?_
    refine lv_bipush (v := 106) hx hb dX8_isAsNow_28 (by decide) ?_
    replace h := ck_el h
    obtain ⟨hi16, h⟩ := h
    refine va_iald hx hb hK hP 1 0 rfl rfl hi16 dX8_isAsNow_30 ?_
    refine lv_icmp_ne (tgt := 38) hx hb dX8_isAsNow_31 (by decide) (fun c17 => ?_) (fun c17 => ?_)
    · replace h := if_f c17 h
      refine lv_iconst (v := 0) hx hb dX8_isAsNow_38 (by decide) ?_
      refine lv_istore_n (lv' := [(1, .int 0), (0, .ref qt)]) hx hb dX8_isAsNow_39 rfl hl (by decide) rfl (fun ls hl => ?_)
      refine lv_iconst (v := 0) hx hb dX8_isAsNow_40 (by decide) ?_
      refine lv_istore_n (lv' := [(2, .int 0), (1, .int 0), (0, .ref qt)]) hx hb dX8_isAsNow_41 rfl hl (by decide) rfl (fun ls hl => ?_)
      replace h := bd_el h
      obtain ⟨o18, ho18, h⟩ := h
      refine lp42 N 0 0 _ _ _ o18 ho18 hP hS (lv_sub hl [2, 1, 0] rfl) (fun n19 eo H locs ls hP hS hl => ?_)
      subst eo
      refine lv_iload_n hx hb dX8_isAsNow_82 rfl (lv_at hl 0 rfl) ?_
      replace h := bl_el h
      obtain ⟨hn20, h⟩ := h
      simp only [Option.some.injEq] at h
      subst h
      exact hret _ _ _ _ hP hS hn20 dX8_isAsNow_83
    · replace h := if_t c17 h
      refine lv_iconst (v := 1) hx hb dX8_isAsNow_34 (by decide) ?_
      refine lv_goto (tgt := 39) hx hb dX8_isAsNow_35 (by decide) ?_
      refine lv_istore_n (lv' := [(1, .int 1), (0, .ref qt)]) hx hb dX8_isAsNow_39 rfl hl (by decide) rfl (fun ls hl => ?_)
      refine lv_iconst (v := 0) hx hb dX8_isAsNow_40 (by decide) ?_
      refine lv_istore_n (lv' := [(2, .int 0), (1, .int 1), (0, .ref qt)]) hx hb dX8_isAsNow_41 rfl hl (by decide) rfl (fun ls hl => ?_)
      replace h := bd_el h
      obtain ⟨o21, ho21, h⟩ := h
      refine lp42 N 1 0 _ _ _ o21 ho21 hP hS (lv_sub hl [2, 1, 0] rfl) (fun n22 eo H locs ls hP hS hl => ?_)
      subst eo
      refine lv_iload_n hx hb dX8_isAsNow_82 rfl (lv_at hl 0 rfl) ?_
      replace h := bl_el h
      obtain ⟨hn23, h⟩ := h
      simp only [Option.some.injEq] at h
      subst h
      exact hret _ _ _ _ hP hS hn23 dX8_isAsNow_83
theorem hdX8_isAsNow : yX8_isAsNow.cls = RX8 ∧ yX8_isAsNow.cls ≠ "java/lang/invoke/MethodHandle" ∧ yX8_isAsNow.cls ≠ "java/lang/invoke/VarHandle" ∧ (parseMethodDescriptor yX8_isAsNow.desc).map (fun d => d.parameters.length) = some 0 := by decide +kernel

noncomputable def fX8_night_L32 (N : Nat) : Nat → Int32 → Int32 → Int32 → Int32 → Int32 → Int32 → (Nat → Int32) → (Nat → Int32) → (Nat → Int32) → (Nat → Int32) → (Nat → Int32) → (Nat → Int32) → Option (Int32 × Int32 × (Nat → Int32))
  | 0, _, _, _, _, _, _, _, _, _, _, _, _ => none
  | k + 1, x1, x2, x3, x4, it_kinds, it_buyerMany, ft_w, ft_buyerColumn, ft_buyerKind, ft_buyerCoins, ft_weight, ft_value => (if (1 <<< (it_buyerMany &&& 31)) ≤ x4 then some (x2, x3, ft_w) else bd (fX8_copy N ft_w 120 60) fun g2 => bd (fX8_come N it_kinds it_buyerMany ft_buyerColumn ft_buyerKind ft_buyerCoins g2 ft_weight ft_value x4) fun (r4, g5) => (if r4 < 0 then lt (x4 + 1) fun n8 => fX8_night_L32 N k x1 x2 x3 n8 it_kinds it_buyerMany g5 ft_buyerColumn ft_buyerKind ft_buyerCoins ft_weight ft_value else bd (fX8_isAsNow N g5) fun r9 => (if r9 = 0 then lt (x4 + 1) fun n12 => fX8_night_L32 N k x1 x2 x3 n12 it_kinds it_buyerMany g5 ft_buyerColumn ft_buyerKind ft_buyerCoins ft_weight ft_value else lt (x2 + 1) fun n13 => lt (x3 &&& x4) fun n14 => lt (x4 + 1) fun n15 => fX8_night_L32 N k x1 n13 n14 n15 it_kinds it_buyerMany g5 ft_buyerColumn ft_buyerKind ft_buyerCoins ft_weight ft_value)))
theorem fX8_night_L32_s (N : Nat) (k : Nat) (x1 : Int32) (x2 : Int32) (x3 : Int32) (x4 : Int32) (it_kinds : Int32) (it_buyerMany : Int32) (ft_w : Nat → Int32) (ft_buyerColumn : Nat → Int32) (ft_buyerKind : Nat → Int32) (ft_buyerCoins : Nat → Int32) (ft_weight : Nat → Int32) (ft_value : Nat → Int32) : fX8_night_L32 N (k + 1) x1 x2 x3 x4 it_kinds it_buyerMany ft_w ft_buyerColumn ft_buyerKind ft_buyerCoins ft_weight ft_value = ((if (1 <<< (it_buyerMany &&& 31)) ≤ x4 then some (x2, x3, ft_w) else bd (fX8_copy N ft_w 120 60) fun g2 => bd (fX8_come N it_kinds it_buyerMany ft_buyerColumn ft_buyerKind ft_buyerCoins g2 ft_weight ft_value x4) fun (r4, g5) => (if r4 < 0 then lt (x4 + 1) fun n8 => fX8_night_L32 N k x1 x2 x3 n8 it_kinds it_buyerMany g5 ft_buyerColumn ft_buyerKind ft_buyerCoins ft_weight ft_value else bd (fX8_isAsNow N g5) fun r9 => (if r9 = 0 then lt (x4 + 1) fun n12 => fX8_night_L32 N k x1 x2 x3 n12 it_kinds it_buyerMany g5 ft_buyerColumn ft_buyerKind ft_buyerCoins ft_weight ft_value else lt (x2 + 1) fun n13 => lt (x3 &&& x4) fun n14 => lt (x4 + 1) fun n15 => fX8_night_L32 N k x1 n13 n14 n15 it_kinds it_buyerMany g5 ft_buyerColumn ft_buyerKind ft_buyerCoins ft_weight ft_value)))) := rfl
noncomputable def fX8_night (N : Nat) (it_kinds : Int32) (it_buyerMany : Int32) (ft_w : Nat → Int32) (ft_buyerColumn : Nat → Int32) (ft_buyerKind : Nat → Int32) (ft_buyerCoins : Nat → Int32) (ft_weight : Nat → Int32) (ft_value : Nat → Int32) (ft_isKept : Nat → Int32) (x1 : Int32) : Option (Int32 × (Nat → Int32)) := bd (fX8_in N (Int32.toInt64 x1) 0 1) fun r16 => (if r16 = 0 then some ((-1000000002), ft_w) else ck 0 2 ((if (ft_isKept (Int32.toNatClampNeg 0)) = 0 then some ((-1000000003), ft_w) else bd (fX8_night_L32 N N x1 0 (-1) 0 it_kinds it_buyerMany ft_w ft_buyerColumn ft_buyerKind ft_buyerCoins ft_weight ft_value) fun (n22, n23, g24) => (if x1 = 0 then some (n22, g24) else (if n22 = 0 then some (0, g24) else some (n23, g24))))))
set_option maxHeartbeats 4000000 in
set_option maxRecDepth 100000 in
theorem ctX8_night (l : Launch) (D : va_G) (cI cZ cB cS : ClassId) (kK kV : Nat → Nat) (sz : Nat) (qt qt_w qt_isKept qt_value qt_weight qt_newTube qt_newPrice qt_newLow qt_newHigh qt_newGoods qt_rhythm qt_rhythmLong qt_slug qt_text qt_of qt_buyerColumn qt_buyerKind qt_buyerCoins qt_tryRow qt_tryLong qt_tryFree : Nat) (it_kinds : Int32) (it_columns : Int32) (it_slugs : Int32) (it_newKinds : Int32) (it_newColumns : Int32) (it_newSlugs : Int32) (it_rhythmTold : Int32) (it_textSize : Int32) (it_at : Int32) (it_first : Int32) (it_length : Int32) (it_faultOf : Int32) (it_fault : Int32) (it_buyerMany : Int32) (it_tryMany : Int32) (ft_w : Nat → Int32) (ft_buyerColumn : Nat → Int32) (ft_buyerKind : Nat → Int32) (ft_buyerCoins : Nat → Int32) (ft_weight : Nat → Int32) (ft_value : Nat → Int32) (ft_isKept : Nat → Int32) (x1 : Int32) (N : Nat) (r0 : Int32) (w_ft_w : Nat → Int32) (h : fX8_night N it_kinds it_buyerMany ft_w ft_buyerColumn ft_buyerKind ft_buyerCoins ft_weight ft_value ft_isKept x1 = some (r0, w_ft_w)) : CtI l yX8_night wsX8_night { frames := 5, cells := 0, slots := 0, locals := 119 } D (TY cI cZ cB cS) kK kV [.ref qt, .int x1] [(qt, .inr (8, [.ref qt_w, .ref qt_isKept, .ref qt_value, .ref qt_weight, .ref qt_newTube, .ref qt_newPrice, .ref qt_newLow, .ref qt_newHigh, .ref qt_newGoods, .ref qt_rhythm, .ref qt_rhythmLong, .ref qt_slug, .int it_kinds, .int it_columns, .int it_slugs, .int it_newKinds, .int it_newColumns, .int it_newSlugs, .int it_rhythmTold, .ref qt_text, .int it_textSize, .int it_at, .int it_first, .int it_length, .int it_faultOf, .int it_fault, .ref qt_of, .ref qt_buyerColumn, .ref qt_buyerKind, .ref qt_buyerCoins, .int it_buyerMany, .ref qt_tryRow, .ref qt_tryLong, .ref qt_tryFree, .int it_tryMany])), (qt_w, .inl (cI, 240, .inl ft_w)), (qt_buyerColumn, .inl (cI, 8, .inl ft_buyerColumn)), (qt_buyerKind, .inl (cI, 8, .inl ft_buyerKind)), (qt_buyerCoins, .inl (cI, 8, .inl ft_buyerCoins)), (qt_weight, .inl (cI, 10, .inl ft_weight)), (qt_value, .inl (cI, 10, .inl ft_value)), (qt_isKept, .inl (cZ, 2, .inl ft_isKept))] [(qt, .inr (8, [.ref qt_w, .ref qt_isKept, .ref qt_value, .ref qt_weight, .ref qt_newTube, .ref qt_newPrice, .ref qt_newLow, .ref qt_newHigh, .ref qt_newGoods, .ref qt_rhythm, .ref qt_rhythmLong, .ref qt_slug, .int it_kinds, .int it_columns, .int it_slugs, .int it_newKinds, .int it_newColumns, .int it_newSlugs, .int it_rhythmTold, .ref qt_text, .int it_textSize, .int it_at, .int it_first, .int it_length, .int it_faultOf, .int it_fault, .ref qt_of, .ref qt_buyerColumn, .ref qt_buyerKind, .ref qt_buyerCoins, .int it_buyerMany, .ref qt_tryRow, .ref qt_tryLong, .ref qt_tryFree, .int it_tryMany])), (qt_w, .inl (cI, 240, .inl w_ft_w)), (qt_buyerColumn, .inl (cI, 8, .inl ft_buyerColumn)), (qt_buyerKind, .inl (cI, 8, .inl ft_buyerKind)), (qt_buyerCoins, .inl (cI, 8, .inl ft_buyerCoins)), (qt_weight, .inl (cI, 10, .inl ft_weight)), (qt_value, .inl (cI, 10, .inl ft_value)), (qt_isKept, .inl (cZ, 2, .inl ft_isKept))] sz r0 := by
  refine mkI (cc := cX8_night) (maxL := 5) (rt := .int) (own := RX8) (by decide) rfl rfl (Nat.le_of_ble_eq_true rfl) ?_
  intro p e s m args below meth c A Z ls hx hb hml hown hts hK hN hX hP hD hA hS hret hl
  have hl : lv_has ls 5 [(0, .ref qt), (1, .int x1)] := hl
  have fl173 : (Cond.fieldLink RX8 173 "SoupWallModel" "buyerMany" "I").before args s = true := hts _ (List.mem_of_getElem? (l := wsX8_night) (i := 4) rfl)
  have hiX8 : ∀ w ∈ wsX80, w ∈ wsX8_night := fun w h => List.mem_cons_of_mem _ (List.mem_append_right _ h)
  have fl13 : (Cond.fieldLink RX8 13 "SoupWallModel" "isKept" "[Z").before args s = true := hts _ (List.mem_of_getElem? (l := wsX8_night) (i := 2) rfl)
  have cn228 : (Cond.constant RX8 228 (-1000000003)).before args s = true := hts _ (List.mem_of_getElem? (l := wsX8_night) (i := 3) rfl)
  have cn81 : (Cond.constant RX8 81 (-1000000002)).before args s = true := hts _ (List.mem_of_getElem? (l := wsX8_night) (i := 1) rfl)
  have lp32 : ∀ (k : Nat) (x1 : Int32) (x2 : Int32) (x3 : Int32) (x4 : Int32) (ft_w : Nat → Int32) (H : Heap) (locs : List Loc) (ls : Array Slot) (o : Int32 × Int32 × (Nat → Int32)), fX8_night_L32 N k x1 x2 x3 x4 it_kinds it_buyerMany ft_w ft_buyerColumn ft_buyerKind ft_buyerCoins ft_weight ft_value = some o → va_P D vwCl [(qt, .inr (8, [.ref qt_w, .ref qt_isKept, .ref qt_value, .ref qt_weight, .ref qt_newTube, .ref qt_newPrice, .ref qt_newLow, .ref qt_newHigh, .ref qt_newGoods, .ref qt_rhythm, .ref qt_rhythmLong, .ref qt_slug, .int it_kinds, .int it_columns, .int it_slugs, .int it_newKinds, .int it_newColumns, .int it_newSlugs, .int it_rhythmTold, .ref qt_text, .int it_textSize, .int it_at, .int it_first, .int it_length, .int it_faultOf, .int it_fault, .ref qt_of, .ref qt_buyerColumn, .ref qt_buyerKind, .ref qt_buyerCoins, .int it_buyerMany, .ref qt_tryRow, .ref qt_tryLong, .ref qt_tryFree, .int it_tryMany])), (qt_w, .inl (cI, 240, .inl ft_w)), (qt_buyerColumn, .inl (cI, 8, .inl ft_buyerColumn)), (qt_buyerKind, .inl (cI, 8, .inl ft_buyerKind)), (qt_buyerCoins, .inl (cI, 8, .inl ft_buyerCoins)), (qt_weight, .inl (cI, 10, .inl ft_weight)), (qt_value, .inl (cI, 10, .inl ft_value)), (qt_isKept, .inl (cZ, 2, .inl ft_isKept))] H → va_S A s.heap H locs → lv_has ls 5 [(0, .ref qt), (1, .int x1), (2, .int x2), (3, .int x3), (4, .int x4)] → (∀ (e2 : Int32) (e3 : Int32) (e_ft_w : Nat → Int32), (e2, e3, e_ft_w) = o → ∀ (H : Heap) (locs : List Loc) (ls : Array Slot), va_P D vwCl [(qt, .inr (8, [.ref qt_w, .ref qt_isKept, .ref qt_value, .ref qt_weight, .ref qt_newTube, .ref qt_newPrice, .ref qt_newLow, .ref qt_newHigh, .ref qt_newGoods, .ref qt_rhythm, .ref qt_rhythmLong, .ref qt_slug, .int it_kinds, .int it_columns, .int it_slugs, .int it_newKinds, .int it_newColumns, .int it_newSlugs, .int it_rhythmTold, .ref qt_text, .int it_textSize, .int it_at, .int it_first, .int it_length, .int it_faultOf, .int it_fault, .ref qt_of, .ref qt_buyerColumn, .ref qt_buyerKind, .ref qt_buyerCoins, .int it_buyerMany, .ref qt_tryRow, .ref qt_tryLong, .ref qt_tryFree, .int it_tryMany])), (qt_w, .inl (cI, 240, .inl e_ft_w)), (qt_buyerColumn, .inl (cI, 8, .inl ft_buyerColumn)), (qt_buyerKind, .inl (cI, 8, .inl ft_buyerKind)), (qt_buyerCoins, .inl (cI, 8, .inl ft_buyerCoins)), (qt_weight, .inl (cI, 10, .inl ft_weight)), (qt_value, .inl (cI, 10, .inl ft_value)), (qt_isKept, .inl (cZ, 2, .inl ft_isKept))] H → va_S A s.heap H locs → lv_has ls 5 [(1, .int x1), (2, .int e2), (3, .int e3)] → W p l e ({ frames := 5, cells := 0, slots := 0, locals := 119 } : Room) s m args below meth c H locs 0 0 Z (F0 m 81 ls [])) → W p l e ({ frames := 5, cells := 0, slots := 0, locals := 119 } : Room) s m args below meth c H locs 0 0 Z (F0 m 32 ls []) := by
    intro k
    induction k with
    | zero =>
      intro x1 x2 x3 x4 ft_w H locs ls o h
      exact nomatch (show (none : Option (Int32 × Int32 × (Nat → Int32))) = some o from h)
    | succ k ih =>
      intro x1 x2 x3 x4 ft_w H locs ls o h hP hS hl K
      rw [fX8_night_L32_s] at h
      refine lv_iload hx hb dX8_night_32 (lv_at hl 4 rfl) ?_
      refine lv_iconst (v := 1) hx hb dX8_night_34 (by decide) ?_
      refine lv_aload_n hx hb dX8_night_35 rfl (lv_at hl 0 rfl) ?_
      refine va_get (ci := 8) (v := .int it_buyerMany) (C := RX8) (T := TX8) (N := 35) hx hb hts hiX8 hown hK hP 0 rfl rfl 30 (by decide) fl173 (fun _ h9 => h9) rfl dX8_night_36 ?_
      refine lv_ishl hx hb dX8_night_39 ?_
      refine lv_icmp_ge (tgt := 81) hx hb dX8_night_40 (by decide) (fun c1 => ?_) (fun c1 => ?_)
      · replace h := if_t c1 h
        exact K x2 x3 ft_w (Option.some.inj h) _ _ _ hP hS (lv_sub hl [1, 2, 3] rfl)
      · replace h := if_f c1 h
        refine lv_aload_n hx hb dX8_night_43 rfl (lv_at hl 0 rfl) ?_
        refine lv_bipush (v := 120) hx hb dX8_night_44 (by decide) ?_
        refine lv_bipush (v := 60) hx hb dX8_night_46 (by decide) ?_
        replace h := bd_el h
        obtain ⟨g2, hc3, h⟩ := h
        refine callVV (rest := []) ⟨hx, hb, hml, hown, hts⟩ (ctX8_copy l D cI cZ cB cS kK kV _ qt qt_w qt_isKept qt_value qt_weight qt_newTube qt_newPrice qt_newLow qt_newHigh qt_newGoods qt_rhythm qt_rhythmLong qt_slug qt_text qt_of qt_buyerColumn qt_buyerKind qt_buyerCoins qt_tryRow qt_tryLong qt_tryFree it_kinds it_columns it_slugs it_newKinds it_newColumns it_newSlugs it_rhythmTold it_textSize it_at it_first it_length it_faultOf it_fault it_buyerMany it_tryMany ft_w 120 60 N g2 hc3) (cwV 2 hts gX8_night_X8_copy rfl rfl rfl hdX8_copy ⟨Nat.le_of_ble_eq_true rfl, Nat.le_of_ble_eq_true rfl⟩) hK hN hX hP (dF hD rfl) hS hA [0, 1] (mcC rfl (mcC rfl mcN)) (by decide +kernel) [(qt, .inr (8, [.ref qt_w, .ref qt_isKept, .ref qt_value, .ref qt_weight, .ref qt_newTube, .ref qt_newPrice, .ref qt_newLow, .ref qt_newHigh, .ref qt_newGoods, .ref qt_rhythm, .ref qt_rhythmLong, .ref qt_slug, .int it_kinds, .int it_columns, .int it_slugs, .int it_newKinds, .int it_newColumns, .int it_newSlugs, .int it_rhythmTold, .ref qt_text, .int it_textSize, .int it_at, .int it_first, .int it_length, .int it_faultOf, .int it_fault, .ref qt_of, .ref qt_buyerColumn, .ref qt_buyerKind, .ref qt_buyerCoins, .int it_buyerMany, .ref qt_tryRow, .ref qt_tryLong, .ref qt_tryFree, .int it_tryMany])), (qt_w, .inl (cI, 240, .inl g2)), (qt_buyerColumn, .inl (cI, 8, .inl ft_buyerColumn)), (qt_buyerKind, .inl (cI, 8, .inl ft_buyerKind)), (qt_buyerCoins, .inl (cI, 8, .inl ft_buyerCoins)), (qt_weight, .inl (cI, 10, .inl ft_weight)), (qt_value, .inl (cI, 10, .inl ft_value)), (qt_isKept, .inl (cZ, 2, .inl ft_isKept))] [2, 3, 4, 5, 6, 7] (mcC rfl (mcC rfl mcN)) ((mcC rfl (mcC rfl (mcC rfl (mcC rfl (mcC rfl (mcC rfl mcN)))))).trans (mcC rfl (mcC rfl (mcC rfl (mcC rfl (mcC rfl (mcC rfl mcN)))))).symm) 8 rfl (by decide +kernel) (va_recv hK hP (ci := 8) (q0 := 0) rfl rfl) rfl hl.1 rfl (Nat.le_of_ble_eq_true rfl) ⟨Nat.zero_le _, Nat.zero_le _⟩ dX8_night_48 (fun H locs hP hS => ?_)
        refine lv_aload_n hx hb dX8_night_51 rfl (lv_at hl 0 rfl) ?_
        refine lv_iload hx hb dX8_night_52 (lv_at hl 4 rfl) ?_
        replace h := bd_el h
        obtain ⟨⟨r4, g5⟩, hc6, h⟩ := h
        refine callVI (rest := []) ⟨hx, hb, hml, hown, hts⟩ (ctX8_come l D cI cZ cB cS kK kV _ qt qt_w qt_isKept qt_value qt_weight qt_newTube qt_newPrice qt_newLow qt_newHigh qt_newGoods qt_rhythm qt_rhythmLong qt_slug qt_text qt_of qt_buyerColumn qt_buyerKind qt_buyerCoins qt_tryRow qt_tryLong qt_tryFree it_kinds it_columns it_slugs it_newKinds it_newColumns it_newSlugs it_rhythmTold it_textSize it_at it_first it_length it_faultOf it_fault it_buyerMany it_tryMany ft_buyerColumn ft_buyerKind ft_buyerCoins g2 ft_weight ft_value x4 N r4 g5 hc6) (cwV 1 hts gX8_night_X8_come rfl rfl rfl hdX8_come ⟨Nat.le_of_ble_eq_true rfl, Nat.le_of_ble_eq_true rfl⟩) hK hN hX hP (dF hD rfl) hS hA [0, 2, 3, 4, 1, 5, 6] (mcC rfl (mcC rfl (mcC rfl (mcC rfl (mcC rfl (mcC rfl (mcC rfl mcN))))))) (by decide +kernel) [(qt, .inr (8, [.ref qt_w, .ref qt_isKept, .ref qt_value, .ref qt_weight, .ref qt_newTube, .ref qt_newPrice, .ref qt_newLow, .ref qt_newHigh, .ref qt_newGoods, .ref qt_rhythm, .ref qt_rhythmLong, .ref qt_slug, .int it_kinds, .int it_columns, .int it_slugs, .int it_newKinds, .int it_newColumns, .int it_newSlugs, .int it_rhythmTold, .ref qt_text, .int it_textSize, .int it_at, .int it_first, .int it_length, .int it_faultOf, .int it_fault, .ref qt_of, .ref qt_buyerColumn, .ref qt_buyerKind, .ref qt_buyerCoins, .int it_buyerMany, .ref qt_tryRow, .ref qt_tryLong, .ref qt_tryFree, .int it_tryMany])), (qt_w, .inl (cI, 240, .inl g5)), (qt_buyerColumn, .inl (cI, 8, .inl ft_buyerColumn)), (qt_buyerKind, .inl (cI, 8, .inl ft_buyerKind)), (qt_buyerCoins, .inl (cI, 8, .inl ft_buyerCoins)), (qt_weight, .inl (cI, 10, .inl ft_weight)), (qt_value, .inl (cI, 10, .inl ft_value)), (qt_isKept, .inl (cZ, 2, .inl ft_isKept))] [7] (mcC rfl (mcC rfl (mcC rfl (mcC rfl (mcC rfl (mcC rfl (mcC rfl mcN))))))) ((mcC rfl mcN).trans (mcC rfl mcN).symm) 8 rfl (by decide +kernel) (va_recv hK hP (ci := 8) (q0 := 0) rfl rfl) rfl hl.1 rfl (Nat.le_of_ble_eq_true rfl) ⟨Nat.zero_le _, Nat.zero_le _⟩ dX8_night_54 (fun H locs hP hS => ?_)
        refine lv_if_lt (tgt := 75) hx hb dX8_night_57 (by decide) (fun c7 => ?_) (fun c7 => ?_)
        · replace h := if_t c7 h
          obtain ⟨n8, en8⟩ : ∃ z : Int32, z = x4 + 1 := ⟨_, rfl⟩
          replace h := lt_at en8 h
          refine lv_iinc (v := n8) (lv' := [(4, .int n8), (0, .ref qt), (1, .int x1), (2, .int x2), (3, .int x3)]) hx hb dX8_night_75 hl (k := 4) rfl (by rw [en8]; rfl) (by decide) rfl (fun ls hl => ?_)
          refine lv_goto (tgt := 32) hx hb dX8_night_78 (by decide) ?_
          exact ih x1 x2 x3 n8 g5 _ _ _ o h hP hS (lv_sub hl [1, 2, 3, 4, 0] rfl) K
        · replace h := if_f c7 h
          refine lv_aload_n hx hb dX8_night_60 rfl (lv_at hl 0 rfl) ?_
          replace h := bd_el h
          obtain ⟨r9, hc10, h⟩ := h
          refine callVI (rest := []) ⟨hx, hb, hml, hown, hts⟩ (ctX8_isAsNow l D cI cZ cB cS kK kV _ qt qt_w qt_isKept qt_value qt_weight qt_newTube qt_newPrice qt_newLow qt_newHigh qt_newGoods qt_rhythm qt_rhythmLong qt_slug qt_text qt_of qt_buyerColumn qt_buyerKind qt_buyerCoins qt_tryRow qt_tryLong qt_tryFree it_kinds it_columns it_slugs it_newKinds it_newColumns it_newSlugs it_rhythmTold it_textSize it_at it_first it_length it_faultOf it_fault it_buyerMany it_tryMany g5 N r9 hc10) (cwV 0 hts gX8_night_X8_isAsNow rfl rfl rfl hdX8_isAsNow ⟨Nat.le_of_ble_eq_true rfl, Nat.le_of_ble_eq_true rfl⟩) hK hN hX hP (dF hD rfl) hS hA [0, 1] (mcC rfl (mcC rfl mcN)) (by decide +kernel) [(qt, .inr (8, [.ref qt_w, .ref qt_isKept, .ref qt_value, .ref qt_weight, .ref qt_newTube, .ref qt_newPrice, .ref qt_newLow, .ref qt_newHigh, .ref qt_newGoods, .ref qt_rhythm, .ref qt_rhythmLong, .ref qt_slug, .int it_kinds, .int it_columns, .int it_slugs, .int it_newKinds, .int it_newColumns, .int it_newSlugs, .int it_rhythmTold, .ref qt_text, .int it_textSize, .int it_at, .int it_first, .int it_length, .int it_faultOf, .int it_fault, .ref qt_of, .ref qt_buyerColumn, .ref qt_buyerKind, .ref qt_buyerCoins, .int it_buyerMany, .ref qt_tryRow, .ref qt_tryLong, .ref qt_tryFree, .int it_tryMany])), (qt_w, .inl (cI, 240, .inl g5)), (qt_buyerColumn, .inl (cI, 8, .inl ft_buyerColumn)), (qt_buyerKind, .inl (cI, 8, .inl ft_buyerKind)), (qt_buyerCoins, .inl (cI, 8, .inl ft_buyerCoins)), (qt_weight, .inl (cI, 10, .inl ft_weight)), (qt_value, .inl (cI, 10, .inl ft_value)), (qt_isKept, .inl (cZ, 2, .inl ft_isKept))] [2, 3, 4, 5, 6, 7] (mcC rfl (mcC rfl mcN)) ((mcC rfl (mcC rfl (mcC rfl (mcC rfl (mcC rfl (mcC rfl mcN)))))).trans (mcC rfl (mcC rfl (mcC rfl (mcC rfl (mcC rfl (mcC rfl mcN)))))).symm) 8 rfl (by decide +kernel) (va_recv hK hP (ci := 8) (q0 := 0) rfl rfl) rfl hl.1 rfl (Nat.le_of_ble_eq_true rfl) ⟨Nat.zero_le _, Nat.zero_le _⟩ dX8_night_61 (fun H locs hP hS => ?_)
          refine lv_if_eq (tgt := 75) hx hb dX8_night_64 (by decide) (fun c11 => ?_) (fun c11 => ?_)
          · replace h := if_t c11 h
            obtain ⟨n12, en12⟩ : ∃ z : Int32, z = x4 + 1 := ⟨_, rfl⟩
            replace h := lt_at en12 h
            refine lv_iinc (v := n12) (lv' := [(4, .int n12), (0, .ref qt), (1, .int x1), (2, .int x2), (3, .int x3)]) hx hb dX8_night_75 hl (k := 4) rfl (by rw [en12]; rfl) (by decide) rfl (fun ls hl => ?_)
            refine lv_goto (tgt := 32) hx hb dX8_night_78 (by decide) ?_
            exact ih x1 x2 x3 n12 g5 _ _ _ o h hP hS (lv_sub hl [1, 2, 3, 4, 0] rfl) K
          · replace h := if_f c11 h
            obtain ⟨n13, en13⟩ : ∃ z : Int32, z = x2 + 1 := ⟨_, rfl⟩
            replace h := lt_at en13 h
            refine lv_iinc (v := n13) (lv' := [(2, .int n13), (0, .ref qt), (1, .int x1), (3, .int x3), (4, .int x4)]) hx hb dX8_night_67 hl (k := 2) rfl (by rw [en13]; rfl) (by decide) rfl (fun ls hl => ?_)
            refine lv_iload_n hx hb dX8_night_70 rfl (lv_at hl 3 rfl) ?_
            refine lv_iload hx hb dX8_night_71 (lv_at hl 4 rfl) ?_
            refine lv_iand hx hb dX8_night_73 ?_
            refine lv_topi (fun n14 en14 => ?_)
            replace h := lt_at en14 h
            refine lv_istore_n (lv' := [(3, .int n14), (2, .int n13), (0, .ref qt), (1, .int x1), (4, .int x4)]) hx hb dX8_night_74 rfl hl (by decide) rfl (fun ls hl => ?_)
            obtain ⟨n15, en15⟩ : ∃ z : Int32, z = x4 + 1 := ⟨_, rfl⟩
            replace h := lt_at en15 h
            refine lv_iinc (v := n15) (lv' := [(4, .int n15), (3, .int n14), (2, .int n13), (0, .ref qt), (1, .int x1)]) hx hb dX8_night_75 hl (k := 4) rfl (by rw [en15]; rfl) (by decide) rfl (fun ls hl => ?_)
            refine lv_goto (tgt := 32) hx hb dX8_night_78 (by decide) ?_
            exact ih x1 n13 n14 n15 g5 _ _ _ o h hP hS (lv_sub hl [3, 4, 2, 1, 0] rfl) K
  unfold fX8_night at h
  refine lv_iload_n hx hb dX8_night_0 rfl (lv_at hl 1 rfl) ?_
  refine lv_i2l (v := Int32.toInt64 x1) hx hb dX8_night_1 rfl ?_
  refine lv_lconst (v := 0) hx hb dX8_night_2 (by decide) ?_
  refine lv_lconst (v := 1) hx hb dX8_night_3 (by decide) ?_
  replace h := bd_el h
  obtain ⟨r16, hc17, h⟩ := h
  refine callSI (rest := []) ⟨hx, hb, hml, hown, hts⟩ (ctX8_in l D cI cZ cB cS kK kV _ (Int32.toInt64 x1) 0 1 N r16 hc17) (va_cwS 3 hts gX8_night_X8_in rfl rfl rfl hdX8_in ⟨Nat.le_of_ble_eq_true rfl, Nat.le_of_ble_eq_true rfl⟩) hK hN hX hP (dF hD rfl) hS hA [] mcN (by decide +kernel) [(qt, .inr (8, [.ref qt_w, .ref qt_isKept, .ref qt_value, .ref qt_weight, .ref qt_newTube, .ref qt_newPrice, .ref qt_newLow, .ref qt_newHigh, .ref qt_newGoods, .ref qt_rhythm, .ref qt_rhythmLong, .ref qt_slug, .int it_kinds, .int it_columns, .int it_slugs, .int it_newKinds, .int it_newColumns, .int it_newSlugs, .int it_rhythmTold, .ref qt_text, .int it_textSize, .int it_at, .int it_first, .int it_length, .int it_faultOf, .int it_fault, .ref qt_of, .ref qt_buyerColumn, .ref qt_buyerKind, .ref qt_buyerCoins, .int it_buyerMany, .ref qt_tryRow, .ref qt_tryLong, .ref qt_tryFree, .int it_tryMany])), (qt_w, .inl (cI, 240, .inl ft_w)), (qt_buyerColumn, .inl (cI, 8, .inl ft_buyerColumn)), (qt_buyerKind, .inl (cI, 8, .inl ft_buyerKind)), (qt_buyerCoins, .inl (cI, 8, .inl ft_buyerCoins)), (qt_weight, .inl (cI, 10, .inl ft_weight)), (qt_value, .inl (cI, 10, .inl ft_value)), (qt_isKept, .inl (cZ, 2, .inl ft_isKept))] [0, 1, 2, 3, 4, 5, 6, 7] mcN ((mcC rfl (mcC rfl (mcC rfl (mcC rfl (mcC rfl (mcC rfl (mcC rfl (mcC rfl mcN)))))))).trans (mcC rfl (mcC rfl (mcC rfl (mcC rfl (mcC rfl (mcC rfl (mcC rfl (mcC rfl mcN)))))))).symm) 8 rfl (by decide +kernel) rfl hl.1 rfl (Nat.le_of_ble_eq_true rfl) ⟨Nat.zero_le _, Nat.zero_le _⟩ dX8_night_4 (fun H locs hP hS => ?_)
  refine lv_if_ne (tgt := 13) hx hb dX8_night_7 (by decide) (fun c18 => ?_) (fun c18 => ?_)
  · replace h := if_f c18 h
    refine lv_aload_n hx hb dX8_night_13 rfl (lv_at hl 0 rfl) ?_
    refine va_get (ci := 8) (v := .ref qt_isKept) (C := RX8) (T := TX8) (N := 35) hx hb hts hiX8 hown hK hP 0 rfl rfl 1 (by decide) fl13 (fun _ h9 => h9) rfl dX8_night_14 ?_
    refine lv_iconst (v := 0) hx hb dX8_night_17 (by decide) ?_
    replace h := ck_el h
    obtain ⟨hi19, h⟩ := h
    refine va_zald hx hb hK hP 7 1 rfl rfl hi19 dX8_night_18 ?_
    refine lv_if_ne (tgt := 25) hx hb dX8_night_19 (by decide) (fun c20 => ?_) (fun c20 => ?_)
    · replace h := if_f c20 h
      refine lv_iconst (v := 0) hx hb dX8_night_25 (by decide) ?_
      refine lv_istore_n (lv' := [(2, .int 0), (0, .ref qt), (1, .int x1)]) hx hb dX8_night_26 rfl hl (by decide) rfl (fun ls hl => ?_)
      refine lv_iconst (v := (-1)) hx hb dX8_night_27 (by decide) ?_
      refine lv_istore_n (lv' := [(3, .int (-1)), (2, .int 0), (0, .ref qt), (1, .int x1)]) hx hb dX8_night_28 rfl hl (by decide) rfl (fun ls hl => ?_)
      refine lv_iconst (v := 0) hx hb dX8_night_29 (by decide) ?_
      refine lv_istore (lv' := [(4, .int 0), (3, .int (-1)), (2, .int 0), (0, .ref qt), (1, .int x1)]) hx hb dX8_night_30 hl (by decide) rfl (fun ls hl => ?_)
      replace h := bd_el h
      obtain ⟨o21, ho21, h⟩ := h
      refine lp32 N x1 0 (-1) 0 ft_w _ _ _ o21 ho21 hP hS (lv_sub hl [3, 4, 2, 1, 0] rfl) (fun n22 n23 g24 eo H locs ls hP hS hl => ?_)
      subst eo
      refine lv_iload_n hx hb dX8_night_81 rfl (lv_at hl 0 rfl) ?_
      refine lv_if_ne (tgt := 89) hx hb dX8_night_82 (by decide) (fun c25 => ?_) (fun c25 => ?_)
      · replace h := if_f c25 h
        refine lv_iload_n hx hb dX8_night_89 rfl (lv_at hl 1 rfl) ?_
        refine lv_if_ne (tgt := 97) hx hb dX8_night_90 (by decide) (fun c26 => ?_) (fun c26 => ?_)
        · replace h := if_f c26 h
          refine lv_iload_n hx hb dX8_night_97 rfl (lv_at hl 2 rfl) ?_
          simp only [Option.some.injEq, Prod.mk.injEq] at h
          obtain ⟨rfl, rfl⟩ := h
          exact hret _ _ _ _ hP hS rfl dX8_night_98
        · replace h := if_t c26 h
          refine lv_iconst (v := 0) hx hb dX8_night_93 (by decide) ?_
          refine lv_goto (tgt := 98) hx hb dX8_night_94 (by decide) ?_
          simp only [Option.some.injEq, Prod.mk.injEq] at h
          obtain ⟨rfl, rfl⟩ := h
          exact hret _ _ _ _ hP hS rfl dX8_night_98
      · replace h := if_t c25 h
        refine lv_iload_n hx hb dX8_night_85 rfl (lv_at hl 1 rfl) ?_
        refine lv_goto (tgt := 98) hx hb dX8_night_86 (by decide) ?_
        simp only [Option.some.injEq, Prod.mk.injEq] at h
        obtain ⟨rfl, rfl⟩ := h
        exact hret _ _ _ _ hP hS rfl dX8_night_98
    · replace h := if_t c20 h
      refine lv_ldc (v := (-1000000003)) hx hb hown cn228 dX8_night_22 ?_
      simp only [Option.some.injEq, Prod.mk.injEq] at h
      obtain ⟨rfl, rfl⟩ := h
      exact hret _ _ _ _ hP hS rfl dX8_night_24
  · replace h := if_t c18 h
    refine lv_ldc (v := (-1000000002)) hx hb hown cn81 dX8_night_10 ?_
    simp only [Option.some.injEq, Prod.mk.injEq] at h
    obtain ⟨rfl, rfl⟩ := h
    exact hret _ _ _ _ hP hS rfl dX8_night_12
theorem hdX8_night : yX8_night.cls = RX8 ∧ yX8_night.cls ≠ "java/lang/invoke/MethodHandle" ∧ yX8_night.cls ≠ "java/lang/invoke/VarHandle" ∧ (parseMethodDescriptor yX8_night.desc).map (fun d => d.parameters.length) = some 1 := by decide +kernel

noncomputable def fX8_best_L61 (N : Nat) : Nat → Int32 → Int32 → Int32 → Int32 → Int32 → Int32 → Int32 → Int32 → Int32 → Int32 → (Nat → Int32) → (Nat → Int32) → Option (Int32)
  | 0, _, _, _, _, _, _, _, _, _, _, _, _ => none
  | k + 1, x1, x2, x3, x4, x5, x6, x7, x8, x9, it_kinds, ft_weight, ft_w => (if it_kinds ≤ x9 then some x7 else bd (fX8_weightIn N ft_weight ft_w 0 x9) fun r2 => bd (fX8_in N (Int32.toInt64 r2) (Int32.toInt64 x6) (Int32.toInt64 (x6 + x5))) fun r4 => bd (fX8_one N r4) fun r6 => lt (x7 + r6) fun n8 => lt (x9 + 1) fun n9 => fX8_best_L61 N k x1 x2 x3 x4 x5 x6 n8 x8 n9 it_kinds ft_weight ft_w)
theorem fX8_best_L61_s (N : Nat) (k : Nat) (x1 : Int32) (x2 : Int32) (x3 : Int32) (x4 : Int32) (x5 : Int32) (x6 : Int32) (x7 : Int32) (x8 : Int32) (x9 : Int32) (it_kinds : Int32) (ft_weight : Nat → Int32) (ft_w : Nat → Int32) : fX8_best_L61 N (k + 1) x1 x2 x3 x4 x5 x6 x7 x8 x9 it_kinds ft_weight ft_w = ((if it_kinds ≤ x9 then some x7 else bd (fX8_weightIn N ft_weight ft_w 0 x9) fun r2 => bd (fX8_in N (Int32.toInt64 r2) (Int32.toInt64 x6) (Int32.toInt64 (x6 + x5))) fun r4 => bd (fX8_one N r4) fun r6 => lt (x7 + r6) fun n8 => lt (x9 + 1) fun n9 => fX8_best_L61 N k x1 x2 x3 x4 x5 x6 n8 x8 n9 it_kinds ft_weight ft_w)) := rfl
noncomputable def fX8_best_L107 (N : Nat) : Nat → Int32 → Int32 → Int32 → Int32 → Int32 → Int32 → Int32 → Int32 → Int32 → Int32 → (Nat → Int32) → Option (Int32)
  | 0, _, _, _, _, _, _, _, _, _, _, _ => none
  | k + 1, x1, x2, x3, x4, x5, x6, x7, x8, x9, it_slugs, ft_slug => (if it_slugs ≤ x9 then some x8 else (if x8 = 0 then ck x9 10 (bd (fX8_in N (Int32.toInt64 (ft_slug (Int32.toNatClampNeg x9))) (Int32.toInt64 x6) (Int32.toInt64 (x6 + x5))) fun r14 => (if r14 = 0 then lt (x9 + 1) fun n17 => fX8_best_L107 N k x1 x2 x3 x4 x5 x6 x7 0 n17 it_slugs ft_slug else lt (x9 + 1) fun n18 => fX8_best_L107 N k x1 x2 x3 x4 x5 x6 x7 1 n18 it_slugs ft_slug)) else lt (x9 + 1) fun n12 => fX8_best_L107 N k x1 x2 x3 x4 x5 x6 x7 1 n12 it_slugs ft_slug))
theorem fX8_best_L107_s (N : Nat) (k : Nat) (x1 : Int32) (x2 : Int32) (x3 : Int32) (x4 : Int32) (x5 : Int32) (x6 : Int32) (x7 : Int32) (x8 : Int32) (x9 : Int32) (it_slugs : Int32) (ft_slug : Nat → Int32) : fX8_best_L107 N (k + 1) x1 x2 x3 x4 x5 x6 x7 x8 x9 it_slugs ft_slug = ((if it_slugs ≤ x9 then some x8 else (if x8 = 0 then ck x9 10 (bd (fX8_in N (Int32.toInt64 (ft_slug (Int32.toNatClampNeg x9))) (Int32.toInt64 x6) (Int32.toInt64 (x6 + x5))) fun r14 => (if r14 = 0 then lt (x9 + 1) fun n17 => fX8_best_L107 N k x1 x2 x3 x4 x5 x6 x7 0 n17 it_slugs ft_slug else lt (x9 + 1) fun n18 => fX8_best_L107 N k x1 x2 x3 x4 x5 x6 x7 1 n18 it_slugs ft_slug)) else lt (x9 + 1) fun n12 => fX8_best_L107 N k x1 x2 x3 x4 x5 x6 x7 1 n12 it_slugs ft_slug))) := rfl
noncomputable def fX8_best_L42 (N : Nat) : Nat → Int32 → Int32 → Int32 → Int32 → Int32 → Int32 → Int32 → Int32 → (Nat → Int32) → (Nat → Int32) → (Nat → Int32) → Option (Int32 × Int32 × Int32)
  | 0, _, _, _, _, _, _, _, _, _, _, _ => none
  | k + 1, x1, x2, x3, x4, x5, x6, it_kinds, it_slugs, ft_weight, ft_w, ft_slug => (if 99 < (x6 + x5) then some (x2, x3, x4) else bd (fX8_best_L61 N N x1 x2 x3 x4 x5 x6 0 0 0 it_kinds ft_weight ft_w) fun n21 => bd (fX8_best_L107 N N x1 x2 x3 x4 x5 x6 n21 0 0 it_slugs ft_slug) fun n23 => (if n23 = 0 then (if n21 ≤ x4 then lt (x6 + 1) fun n27 => fX8_best_L42 N k x1 x2 x3 x4 x5 n27 it_kinds it_slugs ft_weight ft_w ft_slug else lt (x6 + x5) fun n28 => lt (x6 + 1) fun n29 => fX8_best_L42 N k x1 x6 n28 n21 x5 n29 it_kinds it_slugs ft_weight ft_w ft_slug) else lt (x6 + 1) fun n25 => fX8_best_L42 N k x1 x2 x3 x4 x5 n25 it_kinds it_slugs ft_weight ft_w ft_slug))
theorem fX8_best_L42_s (N : Nat) (k : Nat) (x1 : Int32) (x2 : Int32) (x3 : Int32) (x4 : Int32) (x5 : Int32) (x6 : Int32) (it_kinds : Int32) (it_slugs : Int32) (ft_weight : Nat → Int32) (ft_w : Nat → Int32) (ft_slug : Nat → Int32) : fX8_best_L42 N (k + 1) x1 x2 x3 x4 x5 x6 it_kinds it_slugs ft_weight ft_w ft_slug = ((if 99 < (x6 + x5) then some (x2, x3, x4) else bd (fX8_best_L61 N N x1 x2 x3 x4 x5 x6 0 0 0 it_kinds ft_weight ft_w) fun n21 => bd (fX8_best_L107 N N x1 x2 x3 x4 x5 x6 n21 0 0 it_slugs ft_slug) fun n23 => (if n23 = 0 then (if n21 ≤ x4 then lt (x6 + 1) fun n27 => fX8_best_L42 N k x1 x2 x3 x4 x5 n27 it_kinds it_slugs ft_weight ft_w ft_slug else lt (x6 + x5) fun n28 => lt (x6 + 1) fun n29 => fX8_best_L42 N k x1 x6 n28 n21 x5 n29 it_kinds it_slugs ft_weight ft_w ft_slug) else lt (x6 + 1) fun n25 => fX8_best_L42 N k x1 x2 x3 x4 x5 n25 it_kinds it_slugs ft_weight ft_w ft_slug))) := rfl
noncomputable def fX8_best_L25 (N : Nat) : Nat → Int32 → Int32 → Int32 → Int32 → Int32 → Int32 → Int32 → (Nat → Int32) → (Nat → Int32) → (Nat → Int32) → Option (Int32 × Int32 × Int32)
  | 0, _, _, _, _, _, _, _, _, _, _ => none
  | k + 1, x1, x2, x3, x4, x5, it_kinds, it_slugs, ft_weight, ft_w, ft_slug => (if 99 ≤ x5 then some (x2, x3, x4) else (if it_kinds ≤ 0 then some (x2, x3, x4) else bd (fX8_best_L42 N N x1 x2 x3 x4 x5 1 it_kinds it_slugs ft_weight ft_w ft_slug) fun (n33, n34, n35) => lt (x5 + 1) fun n36 => fX8_best_L25 N k x1 n33 n34 n35 n36 it_kinds it_slugs ft_weight ft_w ft_slug))
theorem fX8_best_L25_s (N : Nat) (k : Nat) (x1 : Int32) (x2 : Int32) (x3 : Int32) (x4 : Int32) (x5 : Int32) (it_kinds : Int32) (it_slugs : Int32) (ft_weight : Nat → Int32) (ft_w : Nat → Int32) (ft_slug : Nat → Int32) : fX8_best_L25 N (k + 1) x1 x2 x3 x4 x5 it_kinds it_slugs ft_weight ft_w ft_slug = ((if 99 ≤ x5 then some (x2, x3, x4) else (if it_kinds ≤ 0 then some (x2, x3, x4) else bd (fX8_best_L42 N N x1 x2 x3 x4 x5 1 it_kinds it_slugs ft_weight ft_w ft_slug) fun (n33, n34, n35) => lt (x5 + 1) fun n36 => fX8_best_L25 N k x1 n33 n34 n35 n36 it_kinds it_slugs ft_weight ft_w ft_slug))) := rfl
noncomputable def fX8_best (N : Nat) (it_kinds : Int32) (it_slugs : Int32) (ft_weight : Nat → Int32) (ft_w : Nat → Int32) (ft_slug : Nat → Int32) (x1 : Int32) : Option (Int32) := bd (fX8_in N (Int32.toInt64 x1) 0 2) fun r37 => (if r37 = 0 then some (-1000000002) else bd (fX8_best_L25 N N x1 (-1) (-1) (-1) 0 it_kinds it_slugs ft_weight ft_w ft_slug) fun (n41, n42, n43) => (if x1 = 0 then some n41 else (if x1 = 1 then some n42 else some n43)))
set_option maxHeartbeats 4000000 in
set_option maxRecDepth 100000 in
theorem ctX8_best (l : Launch) (D : va_G) (cI cZ cB cS : ClassId) (kK kV : Nat → Nat) (sz : Nat) (qt qt_w qt_isKept qt_value qt_weight qt_newTube qt_newPrice qt_newLow qt_newHigh qt_newGoods qt_rhythm qt_rhythmLong qt_slug qt_text qt_of qt_buyerColumn qt_buyerKind qt_buyerCoins qt_tryRow qt_tryLong qt_tryFree : Nat) (it_kinds : Int32) (it_columns : Int32) (it_slugs : Int32) (it_newKinds : Int32) (it_newColumns : Int32) (it_newSlugs : Int32) (it_rhythmTold : Int32) (it_textSize : Int32) (it_at : Int32) (it_first : Int32) (it_length : Int32) (it_faultOf : Int32) (it_fault : Int32) (it_buyerMany : Int32) (it_tryMany : Int32) (ft_weight : Nat → Int32) (ft_w : Nat → Int32) (ft_slug : Nat → Int32) (x1 : Int32) (N : Nat) (r0 : Int32)  (h : fX8_best N it_kinds it_slugs ft_weight ft_w ft_slug x1 = some r0) : CtI l yX8_best wsX8_best { frames := 1, cells := 0, slots := 0, locals := 25 } D (TY cI cZ cB cS) kK kV [.ref qt, .int x1] [(qt, .inr (8, [.ref qt_w, .ref qt_isKept, .ref qt_value, .ref qt_weight, .ref qt_newTube, .ref qt_newPrice, .ref qt_newLow, .ref qt_newHigh, .ref qt_newGoods, .ref qt_rhythm, .ref qt_rhythmLong, .ref qt_slug, .int it_kinds, .int it_columns, .int it_slugs, .int it_newKinds, .int it_newColumns, .int it_newSlugs, .int it_rhythmTold, .ref qt_text, .int it_textSize, .int it_at, .int it_first, .int it_length, .int it_faultOf, .int it_fault, .ref qt_of, .ref qt_buyerColumn, .ref qt_buyerKind, .ref qt_buyerCoins, .int it_buyerMany, .ref qt_tryRow, .ref qt_tryLong, .ref qt_tryFree, .int it_tryMany])), (qt_weight, .inl (cI, 10, .inl ft_weight)), (qt_w, .inl (cI, 240, .inl ft_w)), (qt_slug, .inl (cI, 10, .inl ft_slug))] [(qt, .inr (8, [.ref qt_w, .ref qt_isKept, .ref qt_value, .ref qt_weight, .ref qt_newTube, .ref qt_newPrice, .ref qt_newLow, .ref qt_newHigh, .ref qt_newGoods, .ref qt_rhythm, .ref qt_rhythmLong, .ref qt_slug, .int it_kinds, .int it_columns, .int it_slugs, .int it_newKinds, .int it_newColumns, .int it_newSlugs, .int it_rhythmTold, .ref qt_text, .int it_textSize, .int it_at, .int it_first, .int it_length, .int it_faultOf, .int it_fault, .ref qt_of, .ref qt_buyerColumn, .ref qt_buyerKind, .ref qt_buyerCoins, .int it_buyerMany, .ref qt_tryRow, .ref qt_tryLong, .ref qt_tryFree, .int it_tryMany])), (qt_weight, .inl (cI, 10, .inl ft_weight)), (qt_w, .inl (cI, 240, .inl ft_w)), (qt_slug, .inl (cI, 10, .inl ft_slug))] sz r0 := by
  refine mkI (cc := cX8_best) (maxL := 10) (rt := .int) (own := RX8) (by decide) rfl rfl (Nat.le_of_ble_eq_true rfl) ?_
  intro p e s m args below meth c A Z ls hx hb hml hown hts hK hN hX hP hD hA hS hret hl
  have hl : lv_has ls 10 [(0, .ref qt), (1, .int x1)] := hl
  have fl164 : (Cond.fieldLink RX8 164 "SoupWallModel" "kinds" "I").before args s = true := hts _ (List.mem_of_getElem? (l := wsX8_best) (i := 3) rfl)
  have hiX8 : ∀ w ∈ wsX80, w ∈ wsX8_best := fun w h => List.mem_cons_of_mem _ (List.mem_append_right _ h)
  have fl170 : (Cond.fieldLink RX8 170 "SoupWallModel" "slugs" "I").before args s = true := hts _ (List.mem_of_getElem? (l := wsX8_best) (i := 4) rfl)
  have fl44 : (Cond.fieldLink RX8 44 "SoupWallModel" "slug" "[I").before args s = true := hts _ (List.mem_of_getElem? (l := wsX8_best) (i := 5) rfl)
  have cn272 : (Cond.constantLong RX8 272 (2)).before args s = true := hts _ (List.mem_of_getElem? (l := wsX8_best) (i := 1) rfl)
  have cn81 : (Cond.constant RX8 81 (-1000000002)).before args s = true := hts _ (List.mem_of_getElem? (l := wsX8_best) (i := 2) rfl)
  have lp61 : ∀ (k : Nat) (x1 : Int32) (x2 : Int32) (x3 : Int32) (x4 : Int32) (x5 : Int32) (x6 : Int32) (x7 : Int32) (x8 : Int32) (x9 : Int32)  (H : Heap) (locs : List Loc) (ls : Array Slot) (o : Int32), fX8_best_L61 N k x1 x2 x3 x4 x5 x6 x7 x8 x9 it_kinds ft_weight ft_w = some o → va_P D vwCl [(qt, .inr (8, [.ref qt_w, .ref qt_isKept, .ref qt_value, .ref qt_weight, .ref qt_newTube, .ref qt_newPrice, .ref qt_newLow, .ref qt_newHigh, .ref qt_newGoods, .ref qt_rhythm, .ref qt_rhythmLong, .ref qt_slug, .int it_kinds, .int it_columns, .int it_slugs, .int it_newKinds, .int it_newColumns, .int it_newSlugs, .int it_rhythmTold, .ref qt_text, .int it_textSize, .int it_at, .int it_first, .int it_length, .int it_faultOf, .int it_fault, .ref qt_of, .ref qt_buyerColumn, .ref qt_buyerKind, .ref qt_buyerCoins, .int it_buyerMany, .ref qt_tryRow, .ref qt_tryLong, .ref qt_tryFree, .int it_tryMany])), (qt_weight, .inl (cI, 10, .inl ft_weight)), (qt_w, .inl (cI, 240, .inl ft_w)), (qt_slug, .inl (cI, 10, .inl ft_slug))] H → va_S A s.heap H locs → lv_has ls 10 [(0, .ref qt), (1, .int x1), (2, .int x2), (3, .int x3), (4, .int x4), (5, .int x5), (6, .int x6), (7, .int x7), (8, .int x8), (9, .int x9)] → (∀ (e7 : Int32), e7 = o → ∀ (H : Heap) (locs : List Loc) (ls : Array Slot), va_P D vwCl [(qt, .inr (8, [.ref qt_w, .ref qt_isKept, .ref qt_value, .ref qt_weight, .ref qt_newTube, .ref qt_newPrice, .ref qt_newLow, .ref qt_newHigh, .ref qt_newGoods, .ref qt_rhythm, .ref qt_rhythmLong, .ref qt_slug, .int it_kinds, .int it_columns, .int it_slugs, .int it_newKinds, .int it_newColumns, .int it_newSlugs, .int it_rhythmTold, .ref qt_text, .int it_textSize, .int it_at, .int it_first, .int it_length, .int it_faultOf, .int it_fault, .ref qt_of, .ref qt_buyerColumn, .ref qt_buyerKind, .ref qt_buyerCoins, .int it_buyerMany, .ref qt_tryRow, .ref qt_tryLong, .ref qt_tryFree, .int it_tryMany])), (qt_weight, .inl (cI, 10, .inl ft_weight)), (qt_w, .inl (cI, 240, .inl ft_w)), (qt_slug, .inl (cI, 10, .inl ft_slug))] H → va_S A s.heap H locs → lv_has ls 10 [(0, .ref qt), (1, .int x1), (2, .int x2), (3, .int x3), (4, .int x4), (5, .int x5), (6, .int x6), (7, .int e7), (8, .int x8)] → W p l e ({ frames := 1, cells := 0, slots := 0, locals := 25 } : Room) s m args below meth c H locs 0 0 Z (F0 m 104 ls [])) → W p l e ({ frames := 1, cells := 0, slots := 0, locals := 25 } : Room) s m args below meth c H locs 0 0 Z (F0 m 61 ls []) := by
    intro k
    induction k with
    | zero =>
      intro x1 x2 x3 x4 x5 x6 x7 x8 x9 H locs ls o h
      exact nomatch (show (none : Option (Int32)) = some o from h)
    | succ k ih =>
      intro x1 x2 x3 x4 x5 x6 x7 x8 x9 H locs ls o h hP hS hl K
      rw [fX8_best_L61_s] at h
      refine lv_iload hx hb dX8_best_61 (lv_at hl 9 rfl) ?_
      refine lv_aload_n hx hb dX8_best_63 rfl (lv_at hl 0 rfl) ?_
      refine va_get (ci := 8) (v := .int it_kinds) (C := RX8) (T := TX8) (N := 35) hx hb hts hiX8 hown hK hP 0 rfl rfl 12 (by decide) fl164 (fun _ h9 => h9) rfl dX8_best_64 ?_
      refine lv_icmp_ge (tgt := 104) hx hb dX8_best_67 (by decide) (fun c1 => ?_) (fun c1 => ?_)
      · replace h := if_t c1 h
        exact K x7 (Option.some.inj h) _ _ _ hP hS (lv_sub hl [0, 1, 2, 3, 4, 5, 6, 7, 8] rfl)
      · replace h := if_f c1 h
        refine lv_iload hx hb dX8_best_70 (lv_at hl 7 rfl) ?_
        refine lv_aload_n hx hb dX8_best_72 rfl (lv_at hl 0 rfl) ?_
        refine lv_iconst (v := 0) hx hb dX8_best_73 (by decide) ?_
        refine lv_iload hx hb dX8_best_74 (lv_at hl 9 rfl) ?_
        replace h := bd_el h
        obtain ⟨r2, hc3, h⟩ := h
        refine callVI (rest := [.int x7]) ⟨hx, hb, hml, hown, hts⟩ (ctX8_weightIn l D cI cZ cB cS kK kV _ qt qt_w qt_isKept qt_value qt_weight qt_newTube qt_newPrice qt_newLow qt_newHigh qt_newGoods qt_rhythm qt_rhythmLong qt_slug qt_text qt_of qt_buyerColumn qt_buyerKind qt_buyerCoins qt_tryRow qt_tryLong qt_tryFree it_kinds it_columns it_slugs it_newKinds it_newColumns it_newSlugs it_rhythmTold it_textSize it_at it_first it_length it_faultOf it_fault it_buyerMany it_tryMany ft_weight ft_w 0 x9 N r2 hc3) (cwV 2 hts gX8_best_X8_weightIn rfl rfl rfl hdX8_weightIn ⟨Nat.le_of_ble_eq_true rfl, Nat.le_of_ble_eq_true rfl⟩) hK hN hX hP (dF hD rfl) hS hA [0, 1, 2] (mcC rfl (mcC rfl (mcC rfl mcN))) (by decide +kernel) [(qt, .inr (8, [.ref qt_w, .ref qt_isKept, .ref qt_value, .ref qt_weight, .ref qt_newTube, .ref qt_newPrice, .ref qt_newLow, .ref qt_newHigh, .ref qt_newGoods, .ref qt_rhythm, .ref qt_rhythmLong, .ref qt_slug, .int it_kinds, .int it_columns, .int it_slugs, .int it_newKinds, .int it_newColumns, .int it_newSlugs, .int it_rhythmTold, .ref qt_text, .int it_textSize, .int it_at, .int it_first, .int it_length, .int it_faultOf, .int it_fault, .ref qt_of, .ref qt_buyerColumn, .ref qt_buyerKind, .ref qt_buyerCoins, .int it_buyerMany, .ref qt_tryRow, .ref qt_tryLong, .ref qt_tryFree, .int it_tryMany])), (qt_weight, .inl (cI, 10, .inl ft_weight)), (qt_w, .inl (cI, 240, .inl ft_w)), (qt_slug, .inl (cI, 10, .inl ft_slug))] [3] (mcC rfl (mcC rfl (mcC rfl mcN))) ((mcC rfl mcN).trans (mcC rfl mcN).symm) 4 rfl (by decide +kernel) (va_recv hK hP (ci := 8) (q0 := 0) rfl rfl) rfl hl.1 rfl (Nat.le_of_ble_eq_true rfl) ⟨Nat.zero_le _, Nat.zero_le _⟩ dX8_best_76 (fun H locs hP hS => ?_)
        refine lv_i2l (v := Int32.toInt64 r2) hx hb dX8_best_79 rfl ?_
        refine lv_iload hx hb dX8_best_80 (lv_at hl 6 rfl) ?_
        refine lv_i2l (v := Int32.toInt64 x6) hx hb dX8_best_82 rfl ?_
        refine lv_iload hx hb dX8_best_83 (lv_at hl 6 rfl) ?_
        refine lv_iload hx hb dX8_best_85 (lv_at hl 5 rfl) ?_
        refine lv_iadd hx hb dX8_best_87 ?_
        refine lv_i2l (v := Int32.toInt64 (x6 + x5)) hx hb dX8_best_88 rfl ?_
        replace h := bd_el h
        obtain ⟨r4, hc5, h⟩ := h
        refine callSI (rest := [.int x7]) ⟨hx, hb, hml, hown, hts⟩ (ctX8_in l D cI cZ cB cS kK kV _ (Int32.toInt64 r2) (Int32.toInt64 x6) (Int32.toInt64 (x6 + x5)) N r4 hc5) (va_cwS 3 hts gX8_best_X8_in rfl rfl rfl hdX8_in ⟨Nat.le_of_ble_eq_true rfl, Nat.le_of_ble_eq_true rfl⟩) hK hN hX hP (dF hD rfl) hS hA [] mcN (by decide +kernel) [(qt, .inr (8, [.ref qt_w, .ref qt_isKept, .ref qt_value, .ref qt_weight, .ref qt_newTube, .ref qt_newPrice, .ref qt_newLow, .ref qt_newHigh, .ref qt_newGoods, .ref qt_rhythm, .ref qt_rhythmLong, .ref qt_slug, .int it_kinds, .int it_columns, .int it_slugs, .int it_newKinds, .int it_newColumns, .int it_newSlugs, .int it_rhythmTold, .ref qt_text, .int it_textSize, .int it_at, .int it_first, .int it_length, .int it_faultOf, .int it_fault, .ref qt_of, .ref qt_buyerColumn, .ref qt_buyerKind, .ref qt_buyerCoins, .int it_buyerMany, .ref qt_tryRow, .ref qt_tryLong, .ref qt_tryFree, .int it_tryMany])), (qt_weight, .inl (cI, 10, .inl ft_weight)), (qt_w, .inl (cI, 240, .inl ft_w)), (qt_slug, .inl (cI, 10, .inl ft_slug))] [0, 1, 2, 3] mcN ((mcC rfl (mcC rfl (mcC rfl (mcC rfl mcN)))).trans (mcC rfl (mcC rfl (mcC rfl (mcC rfl mcN)))).symm) 4 rfl (by decide +kernel) rfl hl.1 rfl (Nat.le_of_ble_eq_true rfl) ⟨Nat.zero_le _, Nat.zero_le _⟩ dX8_best_89 (fun H locs hP hS => ?_)
        replace h := bd_el h
        obtain ⟨r6, hc7, h⟩ := h
        refine callSI (rest := [.int x7]) ⟨hx, hb, hml, hown, hts⟩ (ctX8_one l D cI cZ cB cS kK kV _ r4 N r6 hc7) (va_cwS 1 hts gX8_best_X8_one rfl rfl rfl hdX8_one ⟨Nat.le_of_ble_eq_true rfl, Nat.le_of_ble_eq_true rfl⟩) hK hN hX hP (dF hD rfl) hS hA [] mcN (by decide +kernel) [(qt, .inr (8, [.ref qt_w, .ref qt_isKept, .ref qt_value, .ref qt_weight, .ref qt_newTube, .ref qt_newPrice, .ref qt_newLow, .ref qt_newHigh, .ref qt_newGoods, .ref qt_rhythm, .ref qt_rhythmLong, .ref qt_slug, .int it_kinds, .int it_columns, .int it_slugs, .int it_newKinds, .int it_newColumns, .int it_newSlugs, .int it_rhythmTold, .ref qt_text, .int it_textSize, .int it_at, .int it_first, .int it_length, .int it_faultOf, .int it_fault, .ref qt_of, .ref qt_buyerColumn, .ref qt_buyerKind, .ref qt_buyerCoins, .int it_buyerMany, .ref qt_tryRow, .ref qt_tryLong, .ref qt_tryFree, .int it_tryMany])), (qt_weight, .inl (cI, 10, .inl ft_weight)), (qt_w, .inl (cI, 240, .inl ft_w)), (qt_slug, .inl (cI, 10, .inl ft_slug))] [0, 1, 2, 3] mcN ((mcC rfl (mcC rfl (mcC rfl (mcC rfl mcN)))).trans (mcC rfl (mcC rfl (mcC rfl (mcC rfl mcN)))).symm) 4 rfl (by decide +kernel) rfl hl.1 rfl (Nat.le_of_ble_eq_true rfl) ⟨Nat.zero_le _, Nat.zero_le _⟩ dX8_best_92 (fun H locs hP hS => ?_)
        refine lv_iadd hx hb dX8_best_95 ?_
        refine lv_topi (fun n8 en8 => ?_)
        replace h := lt_at en8 h
        refine lv_istore (lv' := [(7, .int n8), (0, .ref qt), (1, .int x1), (2, .int x2), (3, .int x3), (4, .int x4), (5, .int x5), (6, .int x6), (8, .int x8), (9, .int x9)]) hx hb dX8_best_96 hl (by decide) rfl (fun ls hl => ?_)
        obtain ⟨n9, en9⟩ : ∃ z : Int32, z = x9 + 1 := ⟨_, rfl⟩
        replace h := lt_at en9 h
        refine lv_iinc (v := n9) (lv' := [(9, .int n9), (7, .int n8), (0, .ref qt), (1, .int x1), (2, .int x2), (3, .int x3), (4, .int x4), (5, .int x5), (6, .int x6), (8, .int x8)]) hx hb dX8_best_98 hl (k := 9) rfl (by rw [en9]; rfl) (by decide) rfl (fun ls hl => ?_)
        refine lv_goto (tgt := 61) hx hb dX8_best_101 (by decide) ?_
        exact ih x1 x2 x3 x4 x5 x6 n8 x8 n9 _ _ _ o h hP hS (lv_sub hl [2, 3, 4, 5, 6, 7, 8, 1, 9, 0] rfl) K
  have lp107 : ∀ (k : Nat) (x1 : Int32) (x2 : Int32) (x3 : Int32) (x4 : Int32) (x5 : Int32) (x6 : Int32) (x7 : Int32) (x8 : Int32) (x9 : Int32)  (H : Heap) (locs : List Loc) (ls : Array Slot) (o : Int32), fX8_best_L107 N k x1 x2 x3 x4 x5 x6 x7 x8 x9 it_slugs ft_slug = some o → va_P D vwCl [(qt, .inr (8, [.ref qt_w, .ref qt_isKept, .ref qt_value, .ref qt_weight, .ref qt_newTube, .ref qt_newPrice, .ref qt_newLow, .ref qt_newHigh, .ref qt_newGoods, .ref qt_rhythm, .ref qt_rhythmLong, .ref qt_slug, .int it_kinds, .int it_columns, .int it_slugs, .int it_newKinds, .int it_newColumns, .int it_newSlugs, .int it_rhythmTold, .ref qt_text, .int it_textSize, .int it_at, .int it_first, .int it_length, .int it_faultOf, .int it_fault, .ref qt_of, .ref qt_buyerColumn, .ref qt_buyerKind, .ref qt_buyerCoins, .int it_buyerMany, .ref qt_tryRow, .ref qt_tryLong, .ref qt_tryFree, .int it_tryMany])), (qt_weight, .inl (cI, 10, .inl ft_weight)), (qt_w, .inl (cI, 240, .inl ft_w)), (qt_slug, .inl (cI, 10, .inl ft_slug))] H → va_S A s.heap H locs → lv_has ls 10 [(0, .ref qt), (1, .int x1), (2, .int x2), (3, .int x3), (4, .int x4), (5, .int x5), (6, .int x6), (7, .int x7), (8, .int x8), (9, .int x9)] → (∀ (e8 : Int32), e8 = o → ∀ (H : Heap) (locs : List Loc) (ls : Array Slot), va_P D vwCl [(qt, .inr (8, [.ref qt_w, .ref qt_isKept, .ref qt_value, .ref qt_weight, .ref qt_newTube, .ref qt_newPrice, .ref qt_newLow, .ref qt_newHigh, .ref qt_newGoods, .ref qt_rhythm, .ref qt_rhythmLong, .ref qt_slug, .int it_kinds, .int it_columns, .int it_slugs, .int it_newKinds, .int it_newColumns, .int it_newSlugs, .int it_rhythmTold, .ref qt_text, .int it_textSize, .int it_at, .int it_first, .int it_length, .int it_faultOf, .int it_fault, .ref qt_of, .ref qt_buyerColumn, .ref qt_buyerKind, .ref qt_buyerCoins, .int it_buyerMany, .ref qt_tryRow, .ref qt_tryLong, .ref qt_tryFree, .int it_tryMany])), (qt_weight, .inl (cI, 10, .inl ft_weight)), (qt_w, .inl (cI, 240, .inl ft_w)), (qt_slug, .inl (cI, 10, .inl ft_slug))] H → va_S A s.heap H locs → lv_has ls 10 [(0, .ref qt), (1, .int x1), (2, .int x2), (3, .int x3), (4, .int x4), (5, .int x5), (6, .int x6), (7, .int x7), (8, .int e8)] → W p l e ({ frames := 1, cells := 0, slots := 0, locals := 25 } : Room) s m args below meth c H locs 0 0 Z (F0 m 157 ls [])) → W p l e ({ frames := 1, cells := 0, slots := 0, locals := 25 } : Room) s m args below meth c H locs 0 0 Z (F0 m 107 ls []) := by
    intro k
    induction k with
    | zero =>
      intro x1 x2 x3 x4 x5 x6 x7 x8 x9 H locs ls o h
      exact nomatch (show (none : Option (Int32)) = some o from h)
    | succ k ih =>
      intro x1 x2 x3 x4 x5 x6 x7 x8 x9 H locs ls o h hP hS hl K
      rw [fX8_best_L107_s] at h
      refine lv_iload hx hb dX8_best_107 (lv_at hl 9 rfl) ?_
      refine lv_aload_n hx hb dX8_best_109 rfl (lv_at hl 0 rfl) ?_
      refine va_get (ci := 8) (v := .int it_slugs) (C := RX8) (T := TX8) (N := 35) hx hb hts hiX8 hown hK hP 0 rfl rfl 14 (by decide) fl170 (fun _ h9 => h9) rfl dX8_best_110 ?_
      refine lv_icmp_ge (tgt := 157) hx hb dX8_best_113 (by decide) (fun c10 => ?_) (fun c10 => ?_)
      · replace h := if_t c10 h
        exact K x8 (Option.some.inj h) _ _ _ hP hS (lv_sub hl [0, 1, 2, 3, 4, 5, 6, 7, 8] rfl)
      · replace h := if_f c10 h
        refine lv_iload hx hb dX8_best_116 (lv_at hl 8 rfl) ?_
        refine lv_if_ne (tgt := 144) hx hb dX8_best_118 (by decide) (fun c11 => ?_) (fun c11 => ?_)
        · replace h := if_f c11 h
          refine lv_iconst (v := 1) hx hb dX8_best_144 (by decide) ?_
          refine lv_goto (tgt := 149) hx hb dX8_best_145 (by decide) ?_
          refine lv_istore (lv' := [(8, .int 1), (0, .ref qt), (1, .int x1), (2, .int x2), (3, .int x3), (4, .int x4), (5, .int x5), (6, .int x6), (7, .int x7), (9, .int x9)]) hx hb dX8_best_149 hl (by decide) rfl (fun ls hl => ?_)
          obtain ⟨n12, en12⟩ : ∃ z : Int32, z = x9 + 1 := ⟨_, rfl⟩
          replace h := lt_at en12 h
          refine lv_iinc (v := n12) (lv' := [(9, .int n12), (8, .int 1), (0, .ref qt), (1, .int x1), (2, .int x2), (3, .int x3), (4, .int x4), (5, .int x5), (6, .int x6), (7, .int x7)]) hx hb dX8_best_151 hl (k := 9) rfl (by rw [en12]; rfl) (by decide) rfl (fun ls hl => ?_)
          refine lv_goto (tgt := 107) hx hb dX8_best_154 (by decide) ?_
          exact ih x1 x2 x3 x4 x5 x6 x7 1 n12 _ _ _ o h hP hS (lv_sub hl [2, 3, 4, 5, 6, 7, 8, 9, 1, 0] rfl) K
        · replace h := if_t c11 h
          refine lv_aload_n hx hb dX8_best_121 rfl (lv_at hl 0 rfl) ?_
          refine va_get (ci := 8) (v := .ref qt_slug) (C := RX8) (T := TX8) (N := 35) hx hb hts hiX8 hown hK hP 0 rfl rfl 11 (by decide) fl44 (fun _ h9 => h9) rfl dX8_best_122 ?_
          refine lv_iload hx hb dX8_best_125 (lv_at hl 9 rfl) ?_
          replace h := ck_el h
          obtain ⟨hi13, h⟩ := h
          refine va_iald hx hb hK hP 3 0 rfl rfl hi13 dX8_best_127 ?_
          refine lv_i2l (v := Int32.toInt64 (ft_slug (Int32.toNatClampNeg x9))) hx hb dX8_best_128 rfl ?_
          refine lv_iload hx hb dX8_best_129 (lv_at hl 6 rfl) ?_
          refine lv_i2l (v := Int32.toInt64 x6) hx hb dX8_best_131 rfl ?_
          refine lv_iload hx hb dX8_best_132 (lv_at hl 6 rfl) ?_
          refine lv_iload hx hb dX8_best_134 (lv_at hl 5 rfl) ?_
          refine lv_iadd hx hb dX8_best_136 ?_
          refine lv_i2l (v := Int32.toInt64 (x6 + x5)) hx hb dX8_best_137 rfl ?_
          replace h := bd_el h
          obtain ⟨r14, hc15, h⟩ := h
          refine callSI (rest := []) ⟨hx, hb, hml, hown, hts⟩ (ctX8_in l D cI cZ cB cS kK kV _ (Int32.toInt64 (ft_slug (Int32.toNatClampNeg x9))) (Int32.toInt64 x6) (Int32.toInt64 (x6 + x5)) N r14 hc15) (va_cwS 3 hts gX8_best_X8_in rfl rfl rfl hdX8_in ⟨Nat.le_of_ble_eq_true rfl, Nat.le_of_ble_eq_true rfl⟩) hK hN hX hP (dF hD rfl) hS hA [] mcN (by decide +kernel) [(qt, .inr (8, [.ref qt_w, .ref qt_isKept, .ref qt_value, .ref qt_weight, .ref qt_newTube, .ref qt_newPrice, .ref qt_newLow, .ref qt_newHigh, .ref qt_newGoods, .ref qt_rhythm, .ref qt_rhythmLong, .ref qt_slug, .int it_kinds, .int it_columns, .int it_slugs, .int it_newKinds, .int it_newColumns, .int it_newSlugs, .int it_rhythmTold, .ref qt_text, .int it_textSize, .int it_at, .int it_first, .int it_length, .int it_faultOf, .int it_fault, .ref qt_of, .ref qt_buyerColumn, .ref qt_buyerKind, .ref qt_buyerCoins, .int it_buyerMany, .ref qt_tryRow, .ref qt_tryLong, .ref qt_tryFree, .int it_tryMany])), (qt_weight, .inl (cI, 10, .inl ft_weight)), (qt_w, .inl (cI, 240, .inl ft_w)), (qt_slug, .inl (cI, 10, .inl ft_slug))] [0, 1, 2, 3] mcN ((mcC rfl (mcC rfl (mcC rfl (mcC rfl mcN)))).trans (mcC rfl (mcC rfl (mcC rfl (mcC rfl mcN)))).symm) 4 rfl (by decide +kernel) rfl hl.1 rfl (Nat.le_of_ble_eq_true rfl) ⟨Nat.zero_le _, Nat.zero_le _⟩ dX8_best_138 (fun H locs hP hS => ?_)
          refine lv_if_eq (tgt := 148) hx hb dX8_best_141 (by decide) (fun c16 => ?_) (fun c16 => ?_)
          · replace h := if_t c16 h
            refine lv_iconst (v := 0) hx hb dX8_best_148 (by decide) ?_
            refine lv_istore (lv' := [(8, .int 0), (0, .ref qt), (1, .int x1), (2, .int x2), (3, .int x3), (4, .int x4), (5, .int x5), (6, .int x6), (7, .int x7), (9, .int x9)]) hx hb dX8_best_149 hl (by decide) rfl (fun ls hl => ?_)
            obtain ⟨n17, en17⟩ : ∃ z : Int32, z = x9 + 1 := ⟨_, rfl⟩
            replace h := lt_at en17 h
            refine lv_iinc (v := n17) (lv' := [(9, .int n17), (8, .int 0), (0, .ref qt), (1, .int x1), (2, .int x2), (3, .int x3), (4, .int x4), (5, .int x5), (6, .int x6), (7, .int x7)]) hx hb dX8_best_151 hl (k := 9) rfl (by rw [en17]; rfl) (by decide) rfl (fun ls hl => ?_)
            refine lv_goto (tgt := 107) hx hb dX8_best_154 (by decide) ?_
            exact ih x1 x2 x3 x4 x5 x6 x7 0 n17 _ _ _ o h hP hS (lv_sub hl [2, 3, 4, 5, 6, 7, 8, 9, 1, 0] rfl) K
          · replace h := if_f c16 h
            refine lv_iconst (v := 1) hx hb dX8_best_144 (by decide) ?_
            refine lv_goto (tgt := 149) hx hb dX8_best_145 (by decide) ?_
            refine lv_istore (lv' := [(8, .int 1), (0, .ref qt), (1, .int x1), (2, .int x2), (3, .int x3), (4, .int x4), (5, .int x5), (6, .int x6), (7, .int x7), (9, .int x9)]) hx hb dX8_best_149 hl (by decide) rfl (fun ls hl => ?_)
            obtain ⟨n18, en18⟩ : ∃ z : Int32, z = x9 + 1 := ⟨_, rfl⟩
            replace h := lt_at en18 h
            refine lv_iinc (v := n18) (lv' := [(9, .int n18), (8, .int 1), (0, .ref qt), (1, .int x1), (2, .int x2), (3, .int x3), (4, .int x4), (5, .int x5), (6, .int x6), (7, .int x7)]) hx hb dX8_best_151 hl (k := 9) rfl (by rw [en18]; rfl) (by decide) rfl (fun ls hl => ?_)
            refine lv_goto (tgt := 107) hx hb dX8_best_154 (by decide) ?_
            exact ih x1 x2 x3 x4 x5 x6 x7 1 n18 _ _ _ o h hP hS (lv_sub hl [2, 3, 4, 5, 6, 7, 8, 9, 1, 0] rfl) K
  have lp42 : ∀ (k : Nat) (x1 : Int32) (x2 : Int32) (x3 : Int32) (x4 : Int32) (x5 : Int32) (x6 : Int32)  (H : Heap) (locs : List Loc) (ls : Array Slot) (o : Int32 × Int32 × Int32), fX8_best_L42 N k x1 x2 x3 x4 x5 x6 it_kinds it_slugs ft_weight ft_w ft_slug = some o → va_P D vwCl [(qt, .inr (8, [.ref qt_w, .ref qt_isKept, .ref qt_value, .ref qt_weight, .ref qt_newTube, .ref qt_newPrice, .ref qt_newLow, .ref qt_newHigh, .ref qt_newGoods, .ref qt_rhythm, .ref qt_rhythmLong, .ref qt_slug, .int it_kinds, .int it_columns, .int it_slugs, .int it_newKinds, .int it_newColumns, .int it_newSlugs, .int it_rhythmTold, .ref qt_text, .int it_textSize, .int it_at, .int it_first, .int it_length, .int it_faultOf, .int it_fault, .ref qt_of, .ref qt_buyerColumn, .ref qt_buyerKind, .ref qt_buyerCoins, .int it_buyerMany, .ref qt_tryRow, .ref qt_tryLong, .ref qt_tryFree, .int it_tryMany])), (qt_weight, .inl (cI, 10, .inl ft_weight)), (qt_w, .inl (cI, 240, .inl ft_w)), (qt_slug, .inl (cI, 10, .inl ft_slug))] H → va_S A s.heap H locs → lv_has ls 10 [(0, .ref qt), (1, .int x1), (2, .int x2), (3, .int x3), (4, .int x4), (5, .int x5), (6, .int x6)] → (∀ (e2 : Int32) (e3 : Int32) (e4 : Int32), (e2, e3, e4) = o → ∀ (H : Heap) (locs : List Loc) (ls : Array Slot), va_P D vwCl [(qt, .inr (8, [.ref qt_w, .ref qt_isKept, .ref qt_value, .ref qt_weight, .ref qt_newTube, .ref qt_newPrice, .ref qt_newLow, .ref qt_newHigh, .ref qt_newGoods, .ref qt_rhythm, .ref qt_rhythmLong, .ref qt_slug, .int it_kinds, .int it_columns, .int it_slugs, .int it_newKinds, .int it_newColumns, .int it_newSlugs, .int it_rhythmTold, .ref qt_text, .int it_textSize, .int it_at, .int it_first, .int it_length, .int it_faultOf, .int it_fault, .ref qt_of, .ref qt_buyerColumn, .ref qt_buyerKind, .ref qt_buyerCoins, .int it_buyerMany, .ref qt_tryRow, .ref qt_tryLong, .ref qt_tryFree, .int it_tryMany])), (qt_weight, .inl (cI, 10, .inl ft_weight)), (qt_w, .inl (cI, 240, .inl ft_w)), (qt_slug, .inl (cI, 10, .inl ft_slug))] H → va_S A s.heap H locs → lv_has ls 10 [(0, .ref qt), (1, .int x1), (2, .int e2), (3, .int e3), (4, .int e4), (5, .int x5)] → W p l e ({ frames := 1, cells := 0, slots := 0, locals := 25 } : Room) s m args below meth c H locs 0 0 Z (F0 m 188 ls [])) → W p l e ({ frames := 1, cells := 0, slots := 0, locals := 25 } : Room) s m args below meth c H locs 0 0 Z (F0 m 42 ls []) := by
    intro k
    induction k with
    | zero =>
      intro x1 x2 x3 x4 x5 x6 H locs ls o h
      exact nomatch (show (none : Option (Int32 × Int32 × Int32)) = some o from h)
    | succ k ih =>
      intro x1 x2 x3 x4 x5 x6 H locs ls o h hP hS hl K
      rw [fX8_best_L42_s] at h
      refine lv_iload hx hb dX8_best_42 (lv_at hl 6 rfl) ?_
      refine lv_iload hx hb dX8_best_44 (lv_at hl 5 rfl) ?_
      refine lv_iadd hx hb dX8_best_46 ?_
      refine lv_bipush (v := 99) hx hb dX8_best_47 (by decide) ?_
      refine lv_icmp_gt (tgt := 188) hx hb dX8_best_49 (by decide) (fun c19 => ?_) (fun c19 => ?_)
      · replace h := if_t c19 h
        exact K x2 x3 x4 (Option.some.inj h) _ _ _ hP hS (lv_sub hl [0, 1, 2, 3, 4, 5] rfl)
      · replace h := if_f c19 h
        refine lv_iconst (v := 0) hx hb dX8_best_52 (by decide) ?_
        refine lv_istore (lv' := [(7, .int 0), (0, .ref qt), (1, .int x1), (2, .int x2), (3, .int x3), (4, .int x4), (5, .int x5), (6, .int x6)]) hx hb dX8_best_53 hl (by decide) rfl (fun ls hl => ?_)
        refine lv_iconst (v := 0) hx hb dX8_best_55 (by decide) ?_
        refine lv_istore (lv' := [(8, .int 0), (7, .int 0), (0, .ref qt), (1, .int x1), (2, .int x2), (3, .int x3), (4, .int x4), (5, .int x5), (6, .int x6)]) hx hb dX8_best_56 hl (by decide) rfl (fun ls hl => ?_)
        refine lv_iconst (v := 0) hx hb dX8_best_58 (by decide) ?_
        refine lv_istore (lv' := [(9, .int 0), (8, .int 0), (7, .int 0), (0, .ref qt), (1, .int x1), (2, .int x2), (3, .int x3), (4, .int x4), (5, .int x5), (6, .int x6)]) hx hb dX8_best_59 hl (by decide) rfl (fun ls hl => ?_)
        replace h := bd_el h
        obtain ⟨o20, ho20, h⟩ := h
        refine lp61 N x1 x2 x3 x4 x5 x6 0 0 0 _ _ _ o20 ho20 hP hS (lv_sub hl [3, 4, 5, 6, 7, 8, 9, 2, 1, 0] rfl) (fun n21 eo H locs ls hP hS hl => ?_)
        subst eo
        refine lv_iconst (v := 0) hx hb dX8_best_104 (by decide) ?_
        refine lv_istore (lv' := [(9, .int 0), (0, .ref qt), (1, .int x1), (2, .int x2), (3, .int x3), (4, .int x4), (5, .int x5), (6, .int x6), (7, .int n21), (8, .int 0)]) hx hb dX8_best_105 hl (by decide) rfl (fun ls hl => ?_)
        replace h := bd_el h
        obtain ⟨o22, ho22, h⟩ := h
        refine lp107 N x1 x2 x3 x4 x5 x6 n21 0 0 _ _ _ o22 ho22 hP hS (lv_sub hl [1, 2, 3, 4, 5, 6, 7, 8, 9, 0] rfl) (fun n23 eo H locs ls hP hS hl => ?_)
        subst eo
        refine lv_iload hx hb dX8_best_157 (lv_at hl 8 rfl) ?_
        refine lv_if_ne (tgt := 182) hx hb dX8_best_159 (by decide) (fun c24 => ?_) (fun c24 => ?_)
        · replace h := if_f c24 h
          obtain ⟨n25, en25⟩ : ∃ z : Int32, z = x6 + 1 := ⟨_, rfl⟩
          replace h := lt_at en25 h
          refine lv_iinc (v := n25) (lv' := [(6, .int n25), (0, .ref qt), (1, .int x1), (2, .int x2), (3, .int x3), (4, .int x4), (5, .int x5), (7, .int n21), (8, .int n23)]) hx hb dX8_best_182 hl (k := 6) rfl (by rw [en25]; rfl) (by decide) rfl (fun ls hl => ?_)
          refine lv_goto (tgt := 42) hx hb dX8_best_185 (by decide) ?_
          exact ih x1 x2 x3 x4 x5 n25 _ _ _ o h hP hS (lv_sub hl [1, 2, 3, 4, 5, 6, 0] rfl) K
        · replace h := if_t c24 h
          refine lv_iload hx hb dX8_best_162 (lv_at hl 7 rfl) ?_
          refine lv_iload hx hb dX8_best_164 (lv_at hl 4 rfl) ?_
          refine lv_icmp_le (tgt := 182) hx hb dX8_best_166 (by decide) (fun c26 => ?_) (fun c26 => ?_)
          · replace h := if_t c26 h
            obtain ⟨n27, en27⟩ : ∃ z : Int32, z = x6 + 1 := ⟨_, rfl⟩
            replace h := lt_at en27 h
            refine lv_iinc (v := n27) (lv' := [(6, .int n27), (0, .ref qt), (1, .int x1), (2, .int x2), (3, .int x3), (4, .int x4), (5, .int x5), (7, .int n21), (8, .int n23)]) hx hb dX8_best_182 hl (k := 6) rfl (by rw [en27]; rfl) (by decide) rfl (fun ls hl => ?_)
            refine lv_goto (tgt := 42) hx hb dX8_best_185 (by decide) ?_
            exact ih x1 x2 x3 x4 x5 n27 _ _ _ o h hP hS (lv_sub hl [1, 2, 3, 4, 5, 6, 0] rfl) K
          · replace h := if_f c26 h
            refine lv_iload hx hb dX8_best_169 (lv_at hl 6 rfl) ?_
            refine lv_istore_n (lv' := [(2, .int x6), (0, .ref qt), (1, .int x1), (3, .int x3), (4, .int x4), (5, .int x5), (6, .int x6), (7, .int n21), (8, .int n23)]) hx hb dX8_best_171 rfl hl (by decide) rfl (fun ls hl => ?_)
            refine lv_iload hx hb dX8_best_172 (lv_at hl 6 rfl) ?_
            refine lv_iload hx hb dX8_best_174 (lv_at hl 5 rfl) ?_
            refine lv_iadd hx hb dX8_best_176 ?_
            refine lv_topi (fun n28 en28 => ?_)
            replace h := lt_at en28 h
            refine lv_istore_n (lv' := [(3, .int n28), (2, .int x6), (0, .ref qt), (1, .int x1), (4, .int x4), (5, .int x5), (6, .int x6), (7, .int n21), (8, .int n23)]) hx hb dX8_best_177 rfl hl (by decide) rfl (fun ls hl => ?_)
            refine lv_iload hx hb dX8_best_178 (lv_at hl 7 rfl) ?_
            refine lv_istore (lv' := [(4, .int n21), (3, .int n28), (2, .int x6), (0, .ref qt), (1, .int x1), (5, .int x5), (6, .int x6), (7, .int n21), (8, .int n23)]) hx hb dX8_best_180 hl (by decide) rfl (fun ls hl => ?_)
            obtain ⟨n29, en29⟩ : ∃ z : Int32, z = x6 + 1 := ⟨_, rfl⟩
            replace h := lt_at en29 h
            refine lv_iinc (v := n29) (lv' := [(6, .int n29), (4, .int n21), (3, .int n28), (2, .int x6), (0, .ref qt), (1, .int x1), (5, .int x5), (7, .int n21), (8, .int n23)]) hx hb dX8_best_182 hl (k := 6) rfl (by rw [en29]; rfl) (by decide) rfl (fun ls hl => ?_)
            refine lv_goto (tgt := 42) hx hb dX8_best_185 (by decide) ?_
            exact ih x1 x6 n28 n21 x5 n29 _ _ _ o h hP hS (lv_sub hl [4, 5, 3, 2, 1, 6, 0] rfl) K
  have lp25 : ∀ (k : Nat) (x1 : Int32) (x2 : Int32) (x3 : Int32) (x4 : Int32) (x5 : Int32)  (H : Heap) (locs : List Loc) (ls : Array Slot) (o : Int32 × Int32 × Int32), fX8_best_L25 N k x1 x2 x3 x4 x5 it_kinds it_slugs ft_weight ft_w ft_slug = some o → va_P D vwCl [(qt, .inr (8, [.ref qt_w, .ref qt_isKept, .ref qt_value, .ref qt_weight, .ref qt_newTube, .ref qt_newPrice, .ref qt_newLow, .ref qt_newHigh, .ref qt_newGoods, .ref qt_rhythm, .ref qt_rhythmLong, .ref qt_slug, .int it_kinds, .int it_columns, .int it_slugs, .int it_newKinds, .int it_newColumns, .int it_newSlugs, .int it_rhythmTold, .ref qt_text, .int it_textSize, .int it_at, .int it_first, .int it_length, .int it_faultOf, .int it_fault, .ref qt_of, .ref qt_buyerColumn, .ref qt_buyerKind, .ref qt_buyerCoins, .int it_buyerMany, .ref qt_tryRow, .ref qt_tryLong, .ref qt_tryFree, .int it_tryMany])), (qt_weight, .inl (cI, 10, .inl ft_weight)), (qt_w, .inl (cI, 240, .inl ft_w)), (qt_slug, .inl (cI, 10, .inl ft_slug))] H → va_S A s.heap H locs → lv_has ls 10 [(0, .ref qt), (1, .int x1), (2, .int x2), (3, .int x3), (4, .int x4), (5, .int x5)] → (∀ (e2 : Int32) (e3 : Int32) (e4 : Int32), (e2, e3, e4) = o → ∀ (H : Heap) (locs : List Loc) (ls : Array Slot), va_P D vwCl [(qt, .inr (8, [.ref qt_w, .ref qt_isKept, .ref qt_value, .ref qt_weight, .ref qt_newTube, .ref qt_newPrice, .ref qt_newLow, .ref qt_newHigh, .ref qt_newGoods, .ref qt_rhythm, .ref qt_rhythmLong, .ref qt_slug, .int it_kinds, .int it_columns, .int it_slugs, .int it_newKinds, .int it_newColumns, .int it_newSlugs, .int it_rhythmTold, .ref qt_text, .int it_textSize, .int it_at, .int it_first, .int it_length, .int it_faultOf, .int it_fault, .ref qt_of, .ref qt_buyerColumn, .ref qt_buyerKind, .ref qt_buyerCoins, .int it_buyerMany, .ref qt_tryRow, .ref qt_tryLong, .ref qt_tryFree, .int it_tryMany])), (qt_weight, .inl (cI, 10, .inl ft_weight)), (qt_w, .inl (cI, 240, .inl ft_w)), (qt_slug, .inl (cI, 10, .inl ft_slug))] H → va_S A s.heap H locs → lv_has ls 10 [(1, .int x1), (2, .int e2), (3, .int e3), (4, .int e4)] → W p l e ({ frames := 1, cells := 0, slots := 0, locals := 25 } : Room) s m args below meth c H locs 0 0 Z (F0 m 194 ls [])) → W p l e ({ frames := 1, cells := 0, slots := 0, locals := 25 } : Room) s m args below meth c H locs 0 0 Z (F0 m 25 ls []) := by
    intro k
    induction k with
    | zero =>
      intro x1 x2 x3 x4 x5 H locs ls o h
      exact nomatch (show (none : Option (Int32 × Int32 × Int32)) = some o from h)
    | succ k ih =>
      intro x1 x2 x3 x4 x5 H locs ls o h hP hS hl K
      rw [fX8_best_L25_s] at h
      refine lv_iload hx hb dX8_best_25 (lv_at hl 5 rfl) ?_
      refine lv_bipush (v := 99) hx hb dX8_best_27 (by decide) ?_
      refine lv_icmp_ge (tgt := 194) hx hb dX8_best_29 (by decide) (fun c30 => ?_) (fun c30 => ?_)
      · replace h := if_t c30 h
        exact K x2 x3 x4 (Option.some.inj h) _ _ _ hP hS (lv_sub hl [1, 2, 3, 4] rfl)
      · replace h := if_f c30 h
        refine lv_aload_n hx hb dX8_best_32 rfl (lv_at hl 0 rfl) ?_
        refine va_get (ci := 8) (v := .int it_kinds) (C := RX8) (T := TX8) (N := 35) hx hb hts hiX8 hown hK hP 0 rfl rfl 12 (by decide) fl164 (fun _ h9 => h9) rfl dX8_best_33 ?_
        refine lv_if_le (tgt := 194) hx hb dX8_best_36 (by decide) (fun c31 => ?_) (fun c31 => ?_)
        · replace h := if_t c31 h
          exact K x2 x3 x4 (Option.some.inj h) _ _ _ hP hS (lv_sub hl [1, 2, 3, 4] rfl)
        · replace h := if_f c31 h
          refine lv_iconst (v := 1) hx hb dX8_best_39 (by decide) ?_
          refine lv_istore (lv' := [(6, .int 1), (0, .ref qt), (1, .int x1), (2, .int x2), (3, .int x3), (4, .int x4), (5, .int x5)]) hx hb dX8_best_40 hl (by decide) rfl (fun ls hl => ?_)
          replace h := bd_el h
          obtain ⟨o32, ho32, h⟩ := h
          refine lp42 N x1 x2 x3 x4 x5 1 _ _ _ o32 ho32 hP hS (lv_sub hl [1, 2, 3, 4, 5, 6, 0] rfl) (fun n33 n34 n35 eo H locs ls hP hS hl => ?_)
          subst eo
          obtain ⟨n36, en36⟩ : ∃ z : Int32, z = x5 + 1 := ⟨_, rfl⟩
          replace h := lt_at en36 h
          refine lv_iinc (v := n36) (lv' := [(5, .int n36), (0, .ref qt), (1, .int x1), (2, .int n33), (3, .int n34), (4, .int n35)]) hx hb dX8_best_188 hl (k := 5) rfl (by rw [en36]; rfl) (by decide) rfl (fun ls hl => ?_)
          refine lv_goto (tgt := 25) hx hb dX8_best_191 (by decide) ?_
          exact ih x1 n33 n34 n35 n36 _ _ _ o h hP hS (lv_sub hl [1, 2, 3, 4, 5, 0] rfl) K
  unfold fX8_best at h
  refine lv_iload_n hx hb dX8_best_0 rfl (lv_at hl 1 rfl) ?_
  refine lv_i2l (v := Int32.toInt64 x1) hx hb dX8_best_1 rfl ?_
  refine lv_lconst (v := 0) hx hb dX8_best_2 (by decide) ?_
  refine lv_ldc2 (v := 2) hx hb hown cn272 dX8_best_3 ?_
  replace h := bd_el h
  obtain ⟨r37, hc38, h⟩ := h
  refine callSI (rest := []) ⟨hx, hb, hml, hown, hts⟩ (ctX8_in l D cI cZ cB cS kK kV _ (Int32.toInt64 x1) 0 2 N r37 hc38) (va_cwS 3 hts gX8_best_X8_in rfl rfl rfl hdX8_in ⟨Nat.le_of_ble_eq_true rfl, Nat.le_of_ble_eq_true rfl⟩) hK hN hX hP (dF hD rfl) hS hA [] mcN (by decide +kernel) [(qt, .inr (8, [.ref qt_w, .ref qt_isKept, .ref qt_value, .ref qt_weight, .ref qt_newTube, .ref qt_newPrice, .ref qt_newLow, .ref qt_newHigh, .ref qt_newGoods, .ref qt_rhythm, .ref qt_rhythmLong, .ref qt_slug, .int it_kinds, .int it_columns, .int it_slugs, .int it_newKinds, .int it_newColumns, .int it_newSlugs, .int it_rhythmTold, .ref qt_text, .int it_textSize, .int it_at, .int it_first, .int it_length, .int it_faultOf, .int it_fault, .ref qt_of, .ref qt_buyerColumn, .ref qt_buyerKind, .ref qt_buyerCoins, .int it_buyerMany, .ref qt_tryRow, .ref qt_tryLong, .ref qt_tryFree, .int it_tryMany])), (qt_weight, .inl (cI, 10, .inl ft_weight)), (qt_w, .inl (cI, 240, .inl ft_w)), (qt_slug, .inl (cI, 10, .inl ft_slug))] [0, 1, 2, 3] mcN ((mcC rfl (mcC rfl (mcC rfl (mcC rfl mcN)))).trans (mcC rfl (mcC rfl (mcC rfl (mcC rfl mcN)))).symm) 4 rfl (by decide +kernel) rfl hl.1 rfl (Nat.le_of_ble_eq_true rfl) ⟨Nat.zero_le _, Nat.zero_le _⟩ dX8_best_6 (fun H locs hP hS => ?_)
  refine lv_if_ne (tgt := 15) hx hb dX8_best_9 (by decide) (fun c39 => ?_) (fun c39 => ?_)
  · replace h := if_f c39 h
    refine lv_iconst (v := (-1)) hx hb dX8_best_15 (by decide) ?_
    refine lv_istore_n (lv' := [(2, .int (-1)), (0, .ref qt), (1, .int x1)]) hx hb dX8_best_16 rfl hl (by decide) rfl (fun ls hl => ?_)
    refine lv_iconst (v := (-1)) hx hb dX8_best_17 (by decide) ?_
    refine lv_istore_n (lv' := [(3, .int (-1)), (2, .int (-1)), (0, .ref qt), (1, .int x1)]) hx hb dX8_best_18 rfl hl (by decide) rfl (fun ls hl => ?_)
    refine lv_iconst (v := (-1)) hx hb dX8_best_19 (by decide) ?_
    refine lv_istore (lv' := [(4, .int (-1)), (3, .int (-1)), (2, .int (-1)), (0, .ref qt), (1, .int x1)]) hx hb dX8_best_20 hl (by decide) rfl (fun ls hl => ?_)
    refine lv_iconst (v := 0) hx hb dX8_best_22 (by decide) ?_
    refine lv_istore (lv' := [(5, .int 0), (4, .int (-1)), (3, .int (-1)), (2, .int (-1)), (0, .ref qt), (1, .int x1)]) hx hb dX8_best_23 hl (by decide) rfl (fun ls hl => ?_)
    replace h := bd_el h
    obtain ⟨o40, ho40, h⟩ := h
    refine lp25 N x1 (-1) (-1) (-1) 0 _ _ _ o40 ho40 hP hS (lv_sub hl [4, 5, 3, 2, 1, 0] rfl) (fun n41 n42 n43 eo H locs ls hP hS hl => ?_)
    subst eo
    refine lv_iload_n hx hb dX8_best_194 rfl (lv_at hl 0 rfl) ?_
    refine lv_if_ne (tgt := 202) hx hb dX8_best_195 (by decide) (fun c44 => ?_) (fun c44 => ?_)
    · replace h := if_f c44 h
      refine lv_iload_n hx hb dX8_best_202 rfl (lv_at hl 0 rfl) ?_
      refine lv_iconst (v := 1) hx hb dX8_best_203 (by decide) ?_
      refine lv_icmp_ne (tgt := 211) hx hb dX8_best_204 (by decide) (fun c45 => ?_) (fun c45 => ?_)
      · replace h := if_f c45 h
        refine lv_iload hx hb dX8_best_211 (lv_at hl 3 rfl) ?_
        simp only [Option.some.injEq] at h
        subst h
        exact hret _ _ _ _ hP hS rfl dX8_best_213
      · replace h := if_t c45 h
        refine lv_iload_n hx hb dX8_best_207 rfl (lv_at hl 2 rfl) ?_
        refine lv_goto (tgt := 213) hx hb dX8_best_208 (by decide) ?_
        simp only [Option.some.injEq] at h
        subst h
        exact hret _ _ _ _ hP hS rfl dX8_best_213
    · replace h := if_t c44 h
      refine lv_iload_n hx hb dX8_best_198 rfl (lv_at hl 1 rfl) ?_
      refine lv_goto (tgt := 213) hx hb dX8_best_199 (by decide) ?_
      simp only [Option.some.injEq] at h
      subst h
      exact hret _ _ _ _ hP hS rfl dX8_best_213
  · replace h := if_t c39 h
    refine lv_ldc (v := (-1000000002)) hx hb hown cn81 dX8_best_12 ?_
    simp only [Option.some.injEq] at h
    subst h
    exact hret _ _ _ _ hP hS rfl dX8_best_14
theorem hdX8_best : yX8_best.cls = RX8 ∧ yX8_best.cls ≠ "java/lang/invoke/MethodHandle" ∧ yX8_best.cls ≠ "java/lang/invoke/VarHandle" ∧ (parseMethodDescriptor yX8_best.desc).map (fun d => d.parameters.length) = some 1 := by decide +kernel

noncomputable def fX8_cheatOf (N : Nat) (ft_w : Nat → Int32) (x1 : Int32) : Option (Int32) := ck (40 + x1) 240 (ck (25 + (ft_w (Int32.toNatClampNeg (40 + x1)))) 240 (ck (25 + x1) 240 (lt ((ft_w (Int32.toNatClampNeg (25 + (ft_w (Int32.toNatClampNeg (40 + x1)))))) - (ft_w (Int32.toNatClampNeg (25 + x1)))) fun n4 => some n4)))
set_option maxHeartbeats 4000000 in
set_option maxRecDepth 100000 in
theorem ctX8_cheatOf (l : Launch) (D : va_G) (cI cZ cB cS : ClassId) (kK kV : Nat → Nat) (sz : Nat) (qt qt_w qt_isKept qt_value qt_weight qt_newTube qt_newPrice qt_newLow qt_newHigh qt_newGoods qt_rhythm qt_rhythmLong qt_slug qt_text qt_of qt_buyerColumn qt_buyerKind qt_buyerCoins qt_tryRow qt_tryLong qt_tryFree : Nat) (it_kinds : Int32) (it_columns : Int32) (it_slugs : Int32) (it_newKinds : Int32) (it_newColumns : Int32) (it_newSlugs : Int32) (it_rhythmTold : Int32) (it_textSize : Int32) (it_at : Int32) (it_first : Int32) (it_length : Int32) (it_faultOf : Int32) (it_fault : Int32) (it_buyerMany : Int32) (it_tryMany : Int32) (ft_w : Nat → Int32) (x1 : Int32) (N : Nat) (r0 : Int32)  (h : fX8_cheatOf N ft_w x1 = some r0) : CtI l yX8_cheatOf wsX8_cheatOf { frames := 0, cells := 0, slots := 0, locals := 0 } D (TY cI cZ cB cS) kK kV [.ref qt, .int x1] [(qt, .inr (8, [.ref qt_w, .ref qt_isKept, .ref qt_value, .ref qt_weight, .ref qt_newTube, .ref qt_newPrice, .ref qt_newLow, .ref qt_newHigh, .ref qt_newGoods, .ref qt_rhythm, .ref qt_rhythmLong, .ref qt_slug, .int it_kinds, .int it_columns, .int it_slugs, .int it_newKinds, .int it_newColumns, .int it_newSlugs, .int it_rhythmTold, .ref qt_text, .int it_textSize, .int it_at, .int it_first, .int it_length, .int it_faultOf, .int it_fault, .ref qt_of, .ref qt_buyerColumn, .ref qt_buyerKind, .ref qt_buyerCoins, .int it_buyerMany, .ref qt_tryRow, .ref qt_tryLong, .ref qt_tryFree, .int it_tryMany])), (qt_w, .inl (cI, 240, .inl ft_w))] [(qt, .inr (8, [.ref qt_w, .ref qt_isKept, .ref qt_value, .ref qt_weight, .ref qt_newTube, .ref qt_newPrice, .ref qt_newLow, .ref qt_newHigh, .ref qt_newGoods, .ref qt_rhythm, .ref qt_rhythmLong, .ref qt_slug, .int it_kinds, .int it_columns, .int it_slugs, .int it_newKinds, .int it_newColumns, .int it_newSlugs, .int it_rhythmTold, .ref qt_text, .int it_textSize, .int it_at, .int it_first, .int it_length, .int it_faultOf, .int it_fault, .ref qt_of, .ref qt_buyerColumn, .ref qt_buyerKind, .ref qt_buyerCoins, .int it_buyerMany, .ref qt_tryRow, .ref qt_tryLong, .ref qt_tryFree, .int it_tryMany])), (qt_w, .inl (cI, 240, .inl ft_w))] sz r0 := by
  refine mkI (cc := cX8_cheatOf) (maxL := 2) (rt := .int) (own := RX8) (by decide) rfl rfl (Nat.le_of_ble_eq_true rfl) ?_
  intro p e s m args below meth c A Z ls hx hb hml hown hts hK hN hX hP hD hA hS hret hl
  have hl : lv_has ls 2 [(0, .ref qt), (1, .int x1)] := hl
  have fl7 : (Cond.fieldLink RX8 7 "SoupWallModel" "w" "[I").before args s = true := hts _ (List.mem_of_getElem? (l := wsX8_cheatOf) (i := 1) rfl)
  have hiX8 : ∀ w ∈ wsX80, w ∈ wsX8_cheatOf := fun w h => List.mem_cons_of_mem _ (List.mem_append_right _ h)
  unfold fX8_cheatOf at h
  refine lv_aload_n hx hb dX8_cheatOf_0 rfl (lv_at hl 0 rfl) ?_
  refine va_get (ci := 8) (v := .ref qt_w) (C := RX8) (T := TX8) (N := 35) hx hb hts hiX8 hown hK hP 0 rfl rfl 0 (by decide) fl7 (fun _ h9 => h9) rfl dX8_cheatOf_1 ?_
  refine lv_bipush (v := 25) hx hb dX8_cheatOf_4 (by decide) ?_
  refine lv_aload_n hx hb dX8_cheatOf_6 rfl (lv_at hl 0 rfl) ?_
  refine va_get (ci := 8) (v := .ref qt_w) (C := RX8) (T := TX8) (N := 35) hx hb hts hiX8 hown hK hP 0 rfl rfl 0 (by decide) fl7 (fun _ h9 => h9) rfl dX8_cheatOf_7 ?_
  refine lv_bipush (v := 40) hx hb dX8_cheatOf_10 (by decide) ?_
  refine lv_iload_n hx hb dX8_cheatOf_12 rfl (lv_at hl 1 rfl) ?_
  refine lv_iadd hx hb dX8_cheatOf_13 ?_
  replace h := ck_el h
  obtain ⟨hi1, h⟩ := h
  refine va_iald hx hb hK hP 1 0 rfl rfl hi1 dX8_cheatOf_14 ?_
  refine lv_iadd hx hb dX8_cheatOf_15 ?_
  replace h := ck_el h
  obtain ⟨hi2, h⟩ := h
  refine va_iald hx hb hK hP 1 0 rfl rfl hi2 dX8_cheatOf_16 ?_
  refine lv_aload_n hx hb dX8_cheatOf_17 rfl (lv_at hl 0 rfl) ?_
  refine va_get (ci := 8) (v := .ref qt_w) (C := RX8) (T := TX8) (N := 35) hx hb hts hiX8 hown hK hP 0 rfl rfl 0 (by decide) fl7 (fun _ h9 => h9) rfl dX8_cheatOf_18 ?_
  refine lv_bipush (v := 25) hx hb dX8_cheatOf_21 (by decide) ?_
  refine lv_iload_n hx hb dX8_cheatOf_23 rfl (lv_at hl 1 rfl) ?_
  refine lv_iadd hx hb dX8_cheatOf_24 ?_
  replace h := ck_el h
  obtain ⟨hi3, h⟩ := h
  refine va_iald hx hb hK hP 1 0 rfl rfl hi3 dX8_cheatOf_25 ?_
  refine lv_isub hx hb dX8_cheatOf_26 ?_
  refine lv_topi (fun n4 en4 => ?_)
  replace h := lt_at en4 h
  simp only [Option.some.injEq] at h
  subst h
  exact hret _ _ _ _ hP hS rfl dX8_cheatOf_27
theorem hdX8_cheatOf : yX8_cheatOf.cls = RX8 ∧ yX8_cheatOf.cls ≠ "java/lang/invoke/MethodHandle" ∧ yX8_cheatOf.cls ≠ "java/lang/invoke/VarHandle" ∧ (parseMethodDescriptor yX8_cheatOf.desc).map (fun d => d.parameters.length) = some 1 := by decide +kernel

noncomputable def fX8_cheat (N : Nat) (it_columns : Int32) (ft_w : Nat → Int32) (x1 : Int32) : Option (Int32) := bd (fX8_isColumn N it_columns x1) fun r1 => (if r1 = 0 then some (-1000000001) else bd (fX8_cheatOf N ft_w x1) fun r4 => some r4)
set_option maxHeartbeats 4000000 in
set_option maxRecDepth 100000 in
theorem ctX8_cheat (l : Launch) (D : va_G) (cI cZ cB cS : ClassId) (kK kV : Nat → Nat) (sz : Nat) (qt qt_w qt_isKept qt_value qt_weight qt_newTube qt_newPrice qt_newLow qt_newHigh qt_newGoods qt_rhythm qt_rhythmLong qt_slug qt_text qt_of qt_buyerColumn qt_buyerKind qt_buyerCoins qt_tryRow qt_tryLong qt_tryFree : Nat) (it_kinds : Int32) (it_columns : Int32) (it_slugs : Int32) (it_newKinds : Int32) (it_newColumns : Int32) (it_newSlugs : Int32) (it_rhythmTold : Int32) (it_textSize : Int32) (it_at : Int32) (it_first : Int32) (it_length : Int32) (it_faultOf : Int32) (it_fault : Int32) (it_buyerMany : Int32) (it_tryMany : Int32) (ft_w : Nat → Int32) (x1 : Int32) (N : Nat) (r0 : Int32)  (h : fX8_cheat N it_columns ft_w x1 = some r0) : CtI l yX8_cheat wsX8_cheat { frames := 2, cells := 0, slots := 0, locals := 46 } D (TY cI cZ cB cS) kK kV [.ref qt, .int x1] [(qt, .inr (8, [.ref qt_w, .ref qt_isKept, .ref qt_value, .ref qt_weight, .ref qt_newTube, .ref qt_newPrice, .ref qt_newLow, .ref qt_newHigh, .ref qt_newGoods, .ref qt_rhythm, .ref qt_rhythmLong, .ref qt_slug, .int it_kinds, .int it_columns, .int it_slugs, .int it_newKinds, .int it_newColumns, .int it_newSlugs, .int it_rhythmTold, .ref qt_text, .int it_textSize, .int it_at, .int it_first, .int it_length, .int it_faultOf, .int it_fault, .ref qt_of, .ref qt_buyerColumn, .ref qt_buyerKind, .ref qt_buyerCoins, .int it_buyerMany, .ref qt_tryRow, .ref qt_tryLong, .ref qt_tryFree, .int it_tryMany])), (qt_w, .inl (cI, 240, .inl ft_w))] [(qt, .inr (8, [.ref qt_w, .ref qt_isKept, .ref qt_value, .ref qt_weight, .ref qt_newTube, .ref qt_newPrice, .ref qt_newLow, .ref qt_newHigh, .ref qt_newGoods, .ref qt_rhythm, .ref qt_rhythmLong, .ref qt_slug, .int it_kinds, .int it_columns, .int it_slugs, .int it_newKinds, .int it_newColumns, .int it_newSlugs, .int it_rhythmTold, .ref qt_text, .int it_textSize, .int it_at, .int it_first, .int it_length, .int it_faultOf, .int it_fault, .ref qt_of, .ref qt_buyerColumn, .ref qt_buyerKind, .ref qt_buyerCoins, .int it_buyerMany, .ref qt_tryRow, .ref qt_tryLong, .ref qt_tryFree, .int it_tryMany])), (qt_w, .inl (cI, 240, .inl ft_w))] sz r0 := by
  refine mkI (cc := cX8_cheat) (maxL := 2) (rt := .int) (own := RX8) (by decide) rfl rfl (Nat.le_of_ble_eq_true rfl) ?_
  intro p e s m args below meth c A Z ls hx hb hml hown hts hK hN hX hP hD hA hS hret hl
  have hl : lv_has ls 2 [(0, .ref qt), (1, .int x1)] := hl
  have cn193 : (Cond.constant RX8 193 (-1000000001)).before args s = true := hts _ (List.mem_of_getElem? (l := wsX8_cheat) (i := 1) rfl)
  unfold fX8_cheat at h
  refine lv_aload_n hx hb dX8_cheat_0 rfl (lv_at hl 0 rfl) ?_
  refine lv_iload_n hx hb dX8_cheat_1 rfl (lv_at hl 1 rfl) ?_
  replace h := bd_el h
  obtain ⟨r1, hc2, h⟩ := h
  refine callVI (rest := []) ⟨hx, hb, hml, hown, hts⟩ (ctX8_isColumn l D cI cZ cB cS kK kV _ qt qt_w qt_isKept qt_value qt_weight qt_newTube qt_newPrice qt_newLow qt_newHigh qt_newGoods qt_rhythm qt_rhythmLong qt_slug qt_text qt_of qt_buyerColumn qt_buyerKind qt_buyerCoins qt_tryRow qt_tryLong qt_tryFree it_kinds it_columns it_slugs it_newKinds it_newColumns it_newSlugs it_rhythmTold it_textSize it_at it_first it_length it_faultOf it_fault it_buyerMany it_tryMany x1 N r1 hc2) (cwV 1 hts gX8_cheat_X8_isColumn rfl rfl rfl hdX8_isColumn ⟨Nat.le_of_ble_eq_true rfl, Nat.le_of_ble_eq_true rfl⟩) hK hN hX hP (dF hD rfl) hS hA [0] (mcC rfl mcN) (by decide +kernel) [(qt, .inr (8, [.ref qt_w, .ref qt_isKept, .ref qt_value, .ref qt_weight, .ref qt_newTube, .ref qt_newPrice, .ref qt_newLow, .ref qt_newHigh, .ref qt_newGoods, .ref qt_rhythm, .ref qt_rhythmLong, .ref qt_slug, .int it_kinds, .int it_columns, .int it_slugs, .int it_newKinds, .int it_newColumns, .int it_newSlugs, .int it_rhythmTold, .ref qt_text, .int it_textSize, .int it_at, .int it_first, .int it_length, .int it_faultOf, .int it_fault, .ref qt_of, .ref qt_buyerColumn, .ref qt_buyerKind, .ref qt_buyerCoins, .int it_buyerMany, .ref qt_tryRow, .ref qt_tryLong, .ref qt_tryFree, .int it_tryMany])), (qt_w, .inl (cI, 240, .inl ft_w))] [1] (mcC rfl mcN) ((mcC rfl mcN).trans (mcC rfl mcN).symm) 2 rfl (by decide +kernel) (va_recv hK hP (ci := 8) (q0 := 0) rfl rfl) rfl hl.1 rfl (Nat.le_of_ble_eq_true rfl) ⟨Nat.zero_le _, Nat.zero_le _⟩ dX8_cheat_2 (fun H locs hP hS => ?_)
  refine lv_if_eq (tgt := 16) hx hb dX8_cheat_5 (by decide) (fun c3 => ?_) (fun c3 => ?_)
  · replace h := if_t c3 h
    refine lv_ldc (v := (-1000000001)) hx hb hown cn193 dX8_cheat_16 ?_
    simp only [Option.some.injEq] at h
    subst h
    exact hret _ _ _ _ hP hS rfl dX8_cheat_18
  · replace h := if_f c3 h
    refine lv_aload_n hx hb dX8_cheat_8 rfl (lv_at hl 0 rfl) ?_
    refine lv_iload_n hx hb dX8_cheat_9 rfl (lv_at hl 1 rfl) ?_
    replace h := bd_el h
    obtain ⟨r4, hc5, h⟩ := h
    refine callVI (rest := []) ⟨hx, hb, hml, hown, hts⟩ (ctX8_cheatOf l D cI cZ cB cS kK kV _ qt qt_w qt_isKept qt_value qt_weight qt_newTube qt_newPrice qt_newLow qt_newHigh qt_newGoods qt_rhythm qt_rhythmLong qt_slug qt_text qt_of qt_buyerColumn qt_buyerKind qt_buyerCoins qt_tryRow qt_tryLong qt_tryFree it_kinds it_columns it_slugs it_newKinds it_newColumns it_newSlugs it_rhythmTold it_textSize it_at it_first it_length it_faultOf it_fault it_buyerMany it_tryMany ft_w x1 N r4 hc5) (cwV 1 hts gX8_cheat_X8_cheatOf rfl rfl rfl hdX8_cheatOf ⟨Nat.le_of_ble_eq_true rfl, Nat.le_of_ble_eq_true rfl⟩) hK hN hX hP (dF hD rfl) hS hA [0, 1] (mcC rfl (mcC rfl mcN)) (by decide +kernel) [(qt, .inr (8, [.ref qt_w, .ref qt_isKept, .ref qt_value, .ref qt_weight, .ref qt_newTube, .ref qt_newPrice, .ref qt_newLow, .ref qt_newHigh, .ref qt_newGoods, .ref qt_rhythm, .ref qt_rhythmLong, .ref qt_slug, .int it_kinds, .int it_columns, .int it_slugs, .int it_newKinds, .int it_newColumns, .int it_newSlugs, .int it_rhythmTold, .ref qt_text, .int it_textSize, .int it_at, .int it_first, .int it_length, .int it_faultOf, .int it_fault, .ref qt_of, .ref qt_buyerColumn, .ref qt_buyerKind, .ref qt_buyerCoins, .int it_buyerMany, .ref qt_tryRow, .ref qt_tryLong, .ref qt_tryFree, .int it_tryMany])), (qt_w, .inl (cI, 240, .inl ft_w))] [] (mcC rfl (mcC rfl mcN)) (mcN.trans mcN.symm) 2 rfl (by decide +kernel) (va_recv hK hP (ci := 8) (q0 := 0) rfl rfl) rfl hl.1 rfl (Nat.le_of_ble_eq_true rfl) ⟨Nat.zero_le _, Nat.zero_le _⟩ dX8_cheat_10 (fun H locs hP hS => ?_)
    refine lv_goto (tgt := 18) hx hb dX8_cheat_13 (by decide) ?_
    simp only [Option.some.injEq] at h
    subst h
    exact hret _ _ _ _ hP hS rfl dX8_cheat_18
theorem hdX8_cheat : yX8_cheat.cls = RX8 ∧ yX8_cheat.cls ≠ "java/lang/invoke/MethodHandle" ∧ yX8_cheat.cls ≠ "java/lang/invoke/VarHandle" ∧ (parseMethodDescriptor yX8_cheat.desc).map (fun d => d.parameters.length) = some 1 := by decide +kernel

noncomputable def fX8_cheats_L6 (N : Nat) : Nat → Int32 → Int32 → Int32 → Int32 → (Nat → Int32) → Option (Int32)
  | 0, _, _, _, _, _ => none
  | k + 1, x1, x2, x3, it_columns, ft_w => (if it_columns ≤ x3 then some x1 else bd (fX8_cheatOf N ft_w x3) fun r2 => (if r2 ≤ x2 then lt (x3 + 1) fun n5 => fX8_cheats_L6 N k x1 x2 n5 it_columns ft_w else bd (fX8_cheatOf N ft_w x3) fun r6 => lt (x3 + 1) fun n8 => fX8_cheats_L6 N k x3 r6 n8 it_columns ft_w))
theorem fX8_cheats_L6_s (N : Nat) (k : Nat) (x1 : Int32) (x2 : Int32) (x3 : Int32) (it_columns : Int32) (ft_w : Nat → Int32) : fX8_cheats_L6 N (k + 1) x1 x2 x3 it_columns ft_w = ((if it_columns ≤ x3 then some x1 else bd (fX8_cheatOf N ft_w x3) fun r2 => (if r2 ≤ x2 then lt (x3 + 1) fun n5 => fX8_cheats_L6 N k x1 x2 n5 it_columns ft_w else bd (fX8_cheatOf N ft_w x3) fun r6 => lt (x3 + 1) fun n8 => fX8_cheats_L6 N k x3 r6 n8 it_columns ft_w))) := rfl
noncomputable def fX8_cheats (N : Nat) (it_columns : Int32) (ft_w : Nat → Int32) : Option (Int32) := bd (fX8_cheats_L6 N N (-1) 0 0 it_columns ft_w) fun n10 => some n10
set_option maxHeartbeats 4000000 in
set_option maxRecDepth 100000 in
theorem ctX8_cheats (l : Launch) (D : va_G) (cI cZ cB cS : ClassId) (kK kV : Nat → Nat) (sz : Nat) (qt qt_w qt_isKept qt_value qt_weight qt_newTube qt_newPrice qt_newLow qt_newHigh qt_newGoods qt_rhythm qt_rhythmLong qt_slug qt_text qt_of qt_buyerColumn qt_buyerKind qt_buyerCoins qt_tryRow qt_tryLong qt_tryFree : Nat) (it_kinds : Int32) (it_columns : Int32) (it_slugs : Int32) (it_newKinds : Int32) (it_newColumns : Int32) (it_newSlugs : Int32) (it_rhythmTold : Int32) (it_textSize : Int32) (it_at : Int32) (it_first : Int32) (it_length : Int32) (it_faultOf : Int32) (it_fault : Int32) (it_buyerMany : Int32) (it_tryMany : Int32) (ft_w : Nat → Int32)  (N : Nat) (r0 : Int32)  (h : fX8_cheats N it_columns ft_w = some r0) : CtI l yX8_cheats wsX8_cheats { frames := 1, cells := 0, slots := 0, locals := 21 } D (TY cI cZ cB cS) kK kV [.ref qt] [(qt, .inr (8, [.ref qt_w, .ref qt_isKept, .ref qt_value, .ref qt_weight, .ref qt_newTube, .ref qt_newPrice, .ref qt_newLow, .ref qt_newHigh, .ref qt_newGoods, .ref qt_rhythm, .ref qt_rhythmLong, .ref qt_slug, .int it_kinds, .int it_columns, .int it_slugs, .int it_newKinds, .int it_newColumns, .int it_newSlugs, .int it_rhythmTold, .ref qt_text, .int it_textSize, .int it_at, .int it_first, .int it_length, .int it_faultOf, .int it_fault, .ref qt_of, .ref qt_buyerColumn, .ref qt_buyerKind, .ref qt_buyerCoins, .int it_buyerMany, .ref qt_tryRow, .ref qt_tryLong, .ref qt_tryFree, .int it_tryMany])), (qt_w, .inl (cI, 240, .inl ft_w))] [(qt, .inr (8, [.ref qt_w, .ref qt_isKept, .ref qt_value, .ref qt_weight, .ref qt_newTube, .ref qt_newPrice, .ref qt_newLow, .ref qt_newHigh, .ref qt_newGoods, .ref qt_rhythm, .ref qt_rhythmLong, .ref qt_slug, .int it_kinds, .int it_columns, .int it_slugs, .int it_newKinds, .int it_newColumns, .int it_newSlugs, .int it_rhythmTold, .ref qt_text, .int it_textSize, .int it_at, .int it_first, .int it_length, .int it_faultOf, .int it_fault, .ref qt_of, .ref qt_buyerColumn, .ref qt_buyerKind, .ref qt_buyerCoins, .int it_buyerMany, .ref qt_tryRow, .ref qt_tryLong, .ref qt_tryFree, .int it_tryMany])), (qt_w, .inl (cI, 240, .inl ft_w))] sz r0 := by
  refine mkI (cc := cX8_cheats) (maxL := 4) (rt := .int) (own := RX8) (by decide) rfl rfl (Nat.le_of_ble_eq_true rfl) ?_
  intro p e s m args below meth c A Z ls hx hb hml hown hts hK hN hX hP hD hA hS hret hl
  have hl : lv_has ls 4 [(0, .ref qt)] := hl
  have fl167 : (Cond.fieldLink RX8 167 "SoupWallModel" "columns" "I").before args s = true := hts _ (List.mem_of_getElem? (l := wsX8_cheats) (i := 1) rfl)
  have hiX8 : ∀ w ∈ wsX80, w ∈ wsX8_cheats := fun w h => List.mem_cons_of_mem _ (List.mem_append_right _ h)
  have lp6 : ∀ (k : Nat) (x1 : Int32) (x2 : Int32) (x3 : Int32)  (H : Heap) (locs : List Loc) (ls : Array Slot) (o : Int32), fX8_cheats_L6 N k x1 x2 x3 it_columns ft_w = some o → va_P D vwCl [(qt, .inr (8, [.ref qt_w, .ref qt_isKept, .ref qt_value, .ref qt_weight, .ref qt_newTube, .ref qt_newPrice, .ref qt_newLow, .ref qt_newHigh, .ref qt_newGoods, .ref qt_rhythm, .ref qt_rhythmLong, .ref qt_slug, .int it_kinds, .int it_columns, .int it_slugs, .int it_newKinds, .int it_newColumns, .int it_newSlugs, .int it_rhythmTold, .ref qt_text, .int it_textSize, .int it_at, .int it_first, .int it_length, .int it_faultOf, .int it_fault, .ref qt_of, .ref qt_buyerColumn, .ref qt_buyerKind, .ref qt_buyerCoins, .int it_buyerMany, .ref qt_tryRow, .ref qt_tryLong, .ref qt_tryFree, .int it_tryMany])), (qt_w, .inl (cI, 240, .inl ft_w))] H → va_S A s.heap H locs → lv_has ls 4 [(0, .ref qt), (1, .int x1), (2, .int x2), (3, .int x3)] → (∀ (e1 : Int32), e1 = o → ∀ (H : Heap) (locs : List Loc) (ls : Array Slot), va_P D vwCl [(qt, .inr (8, [.ref qt_w, .ref qt_isKept, .ref qt_value, .ref qt_weight, .ref qt_newTube, .ref qt_newPrice, .ref qt_newLow, .ref qt_newHigh, .ref qt_newGoods, .ref qt_rhythm, .ref qt_rhythmLong, .ref qt_slug, .int it_kinds, .int it_columns, .int it_slugs, .int it_newKinds, .int it_newColumns, .int it_newSlugs, .int it_rhythmTold, .ref qt_text, .int it_textSize, .int it_at, .int it_first, .int it_length, .int it_faultOf, .int it_fault, .ref qt_of, .ref qt_buyerColumn, .ref qt_buyerKind, .ref qt_buyerCoins, .int it_buyerMany, .ref qt_tryRow, .ref qt_tryLong, .ref qt_tryFree, .int it_tryMany])), (qt_w, .inl (cI, 240, .inl ft_w))] H → va_S A s.heap H locs → lv_has ls 4 [(1, .int e1)] → W p l e ({ frames := 1, cells := 0, slots := 0, locals := 21 } : Room) s m args below meth c H locs 0 0 Z (F0 m 37 ls [])) → W p l e ({ frames := 1, cells := 0, slots := 0, locals := 21 } : Room) s m args below meth c H locs 0 0 Z (F0 m 6 ls []) := by
    intro k
    induction k with
    | zero =>
      intro x1 x2 x3 H locs ls o h
      exact nomatch (show (none : Option (Int32)) = some o from h)
    | succ k ih =>
      intro x1 x2 x3 H locs ls o h hP hS hl K
      rw [fX8_cheats_L6_s] at h
      refine lv_iload_n hx hb dX8_cheats_6 rfl (lv_at hl 3 rfl) ?_
      refine lv_aload_n hx hb dX8_cheats_7 rfl (lv_at hl 0 rfl) ?_
      refine va_get (ci := 8) (v := .int it_columns) (C := RX8) (T := TX8) (N := 35) hx hb hts hiX8 hown hK hP 0 rfl rfl 13 (by decide) fl167 (fun _ h9 => h9) rfl dX8_cheats_8 ?_
      refine lv_icmp_ge (tgt := 37) hx hb dX8_cheats_11 (by decide) (fun c1 => ?_) (fun c1 => ?_)
      · replace h := if_t c1 h
        exact K x1 (Option.some.inj h) _ _ _ hP hS (lv_sub hl [1] rfl)
      · replace h := if_f c1 h
        refine lv_aload_n hx hb dX8_cheats_14 rfl (lv_at hl 0 rfl) ?_
        refine lv_iload_n hx hb dX8_cheats_15 rfl (lv_at hl 3 rfl) ?_
        replace h := bd_el h
        obtain ⟨r2, hc3, h⟩ := h
        refine callVI (rest := []) ⟨hx, hb, hml, hown, hts⟩ (ctX8_cheatOf l D cI cZ cB cS kK kV _ qt qt_w qt_isKept qt_value qt_weight qt_newTube qt_newPrice qt_newLow qt_newHigh qt_newGoods qt_rhythm qt_rhythmLong qt_slug qt_text qt_of qt_buyerColumn qt_buyerKind qt_buyerCoins qt_tryRow qt_tryLong qt_tryFree it_kinds it_columns it_slugs it_newKinds it_newColumns it_newSlugs it_rhythmTold it_textSize it_at it_first it_length it_faultOf it_fault it_buyerMany it_tryMany ft_w x3 N r2 hc3) (cwV 1 hts gX8_cheats_X8_cheatOf rfl rfl rfl hdX8_cheatOf ⟨Nat.le_of_ble_eq_true rfl, Nat.le_of_ble_eq_true rfl⟩) hK hN hX hP (dF hD rfl) hS hA [0, 1] (mcC rfl (mcC rfl mcN)) (by decide +kernel) [(qt, .inr (8, [.ref qt_w, .ref qt_isKept, .ref qt_value, .ref qt_weight, .ref qt_newTube, .ref qt_newPrice, .ref qt_newLow, .ref qt_newHigh, .ref qt_newGoods, .ref qt_rhythm, .ref qt_rhythmLong, .ref qt_slug, .int it_kinds, .int it_columns, .int it_slugs, .int it_newKinds, .int it_newColumns, .int it_newSlugs, .int it_rhythmTold, .ref qt_text, .int it_textSize, .int it_at, .int it_first, .int it_length, .int it_faultOf, .int it_fault, .ref qt_of, .ref qt_buyerColumn, .ref qt_buyerKind, .ref qt_buyerCoins, .int it_buyerMany, .ref qt_tryRow, .ref qt_tryLong, .ref qt_tryFree, .int it_tryMany])), (qt_w, .inl (cI, 240, .inl ft_w))] [] (mcC rfl (mcC rfl mcN)) (mcN.trans mcN.symm) 2 rfl (by decide +kernel) (va_recv hK hP (ci := 8) (q0 := 0) rfl rfl) rfl hl.1 rfl (Nat.le_of_ble_eq_true rfl) ⟨Nat.zero_le _, Nat.zero_le _⟩ dX8_cheats_16 (fun H locs hP hS => ?_)
        refine lv_iload_n hx hb dX8_cheats_19 rfl (lv_at hl 2 rfl) ?_
        refine lv_icmp_le (tgt := 31) hx hb dX8_cheats_20 (by decide) (fun c4 => ?_) (fun c4 => ?_)
        · replace h := if_t c4 h
          obtain ⟨n5, en5⟩ : ∃ z : Int32, z = x3 + 1 := ⟨_, rfl⟩
          replace h := lt_at en5 h
          refine lv_iinc (v := n5) (lv' := [(3, .int n5), (0, .ref qt), (1, .int x1), (2, .int x2)]) hx hb dX8_cheats_31 hl (k := 3) rfl (by rw [en5]; rfl) (by decide) rfl (fun ls hl => ?_)
          refine lv_goto (tgt := 6) hx hb dX8_cheats_34 (by decide) ?_
          exact ih x1 x2 n5 _ _ _ o h hP hS (lv_sub hl [1, 2, 3, 0] rfl) K
        · replace h := if_f c4 h
          refine lv_iload_n hx hb dX8_cheats_23 rfl (lv_at hl 3 rfl) ?_
          refine lv_istore_n (lv' := [(1, .int x3), (0, .ref qt), (2, .int x2), (3, .int x3)]) hx hb dX8_cheats_24 rfl hl (by decide) rfl (fun ls hl => ?_)
          refine lv_aload_n hx hb dX8_cheats_25 rfl (lv_at hl 1 rfl) ?_
          refine lv_iload_n hx hb dX8_cheats_26 rfl (lv_at hl 3 rfl) ?_
          replace h := bd_el h
          obtain ⟨r6, hc7, h⟩ := h
          refine callVI (rest := []) ⟨hx, hb, hml, hown, hts⟩ (ctX8_cheatOf l D cI cZ cB cS kK kV _ qt qt_w qt_isKept qt_value qt_weight qt_newTube qt_newPrice qt_newLow qt_newHigh qt_newGoods qt_rhythm qt_rhythmLong qt_slug qt_text qt_of qt_buyerColumn qt_buyerKind qt_buyerCoins qt_tryRow qt_tryLong qt_tryFree it_kinds it_columns it_slugs it_newKinds it_newColumns it_newSlugs it_rhythmTold it_textSize it_at it_first it_length it_faultOf it_fault it_buyerMany it_tryMany ft_w x3 N r6 hc7) (cwV 1 hts gX8_cheats_X8_cheatOf rfl rfl rfl hdX8_cheatOf ⟨Nat.le_of_ble_eq_true rfl, Nat.le_of_ble_eq_true rfl⟩) hK hN hX hP (dF hD rfl) hS hA [0, 1] (mcC rfl (mcC rfl mcN)) (by decide +kernel) [(qt, .inr (8, [.ref qt_w, .ref qt_isKept, .ref qt_value, .ref qt_weight, .ref qt_newTube, .ref qt_newPrice, .ref qt_newLow, .ref qt_newHigh, .ref qt_newGoods, .ref qt_rhythm, .ref qt_rhythmLong, .ref qt_slug, .int it_kinds, .int it_columns, .int it_slugs, .int it_newKinds, .int it_newColumns, .int it_newSlugs, .int it_rhythmTold, .ref qt_text, .int it_textSize, .int it_at, .int it_first, .int it_length, .int it_faultOf, .int it_fault, .ref qt_of, .ref qt_buyerColumn, .ref qt_buyerKind, .ref qt_buyerCoins, .int it_buyerMany, .ref qt_tryRow, .ref qt_tryLong, .ref qt_tryFree, .int it_tryMany])), (qt_w, .inl (cI, 240, .inl ft_w))] [] (mcC rfl (mcC rfl mcN)) (mcN.trans mcN.symm) 2 rfl (by decide +kernel) (va_recv hK hP (ci := 8) (q0 := 0) rfl rfl) rfl hl.1 rfl (Nat.le_of_ble_eq_true rfl) ⟨Nat.zero_le _, Nat.zero_le _⟩ dX8_cheats_27 (fun H locs hP hS => ?_)
          refine lv_istore_n (lv' := [(2, .int r6), (1, .int x3), (0, .ref qt), (3, .int x3)]) hx hb dX8_cheats_30 rfl hl (by decide) rfl (fun ls hl => ?_)
          obtain ⟨n8, en8⟩ : ∃ z : Int32, z = x3 + 1 := ⟨_, rfl⟩
          replace h := lt_at en8 h
          refine lv_iinc (v := n8) (lv' := [(3, .int n8), (2, .int r6), (1, .int x3), (0, .ref qt)]) hx hb dX8_cheats_31 hl (k := 3) rfl (by rw [en8]; rfl) (by decide) rfl (fun ls hl => ?_)
          refine lv_goto (tgt := 6) hx hb dX8_cheats_34 (by decide) ?_
          exact ih x3 r6 n8 _ _ _ o h hP hS (lv_sub hl [3, 2, 1, 0] rfl) K
  unfold fX8_cheats at h
  refine lv_iconst (v := (-1)) hx hb dX8_cheats_0 (by decide) ?_
  refine lv_istore_n (lv' := [(1, .int (-1)), (0, .ref qt)]) hx hb dX8_cheats_1 rfl hl (by decide) rfl (fun ls hl => ?_)
  refine lv_iconst (v := 0) hx hb dX8_cheats_2 (by decide) ?_
  refine lv_istore_n (lv' := [(2, .int 0), (1, .int (-1)), (0, .ref qt)]) hx hb dX8_cheats_3 rfl hl (by decide) rfl (fun ls hl => ?_)
  refine lv_iconst (v := 0) hx hb dX8_cheats_4 (by decide) ?_
  refine lv_istore_n (lv' := [(3, .int 0), (2, .int 0), (1, .int (-1)), (0, .ref qt)]) hx hb dX8_cheats_5 rfl hl (by decide) rfl (fun ls hl => ?_)
  replace h := bd_el h
  obtain ⟨o9, ho9, h⟩ := h
  refine lp6 N (-1) 0 0 _ _ _ o9 ho9 hP hS (lv_sub hl [3, 2, 1, 0] rfl) (fun n10 eo H locs ls hP hS hl => ?_)
  subst eo
  refine lv_iload_n hx hb dX8_cheats_37 rfl (lv_at hl 0 rfl) ?_
  simp only [Option.some.injEq] at h
  subst h
  exact hret _ _ _ _ hP hS rfl dX8_cheats_38
theorem hdX8_cheats : yX8_cheats.cls = RX8 ∧ yX8_cheats.cls ≠ "java/lang/invoke/MethodHandle" ∧ yX8_cheats.cls ≠ "java/lang/invoke/VarHandle" ∧ (parseMethodDescriptor yX8_cheats.desc).map (fun d => d.parameters.length) = some 0 := by decide +kernel

noncomputable def fX8_attempt (N : Nat) (it_tryMany : Int32) (ft_tryRow : Nat → Int32) (ft_tryLong : Nat → Int32) (ft_tryFree : Nat → Int32) (x1 : Int32) (x2 : Int32) (x3 : Int32) : Option (Int32 × Int32 × (Nat → Int32) × (Nat → Int32) × (Nat → Int32)) := bd (fX8_in N (Int32.toInt64 x2) 1 8) fun r1 => (if r1 = 0 then some ((-1000000002), it_tryMany, ft_tryRow, ft_tryLong, ft_tryFree) else bd (fX8_in N (Int32.toInt64 x1) 0 (Int32.toInt64 ((1 <<< (x2 &&& 31)) - 1))) fun r4 => (if r4 = 0 then some ((-1000000002), it_tryMany, ft_tryRow, ft_tryLong, ft_tryFree) else (if it_tryMany = 10 then some ((-1000000004), it_tryMany, ft_tryRow, ft_tryLong, ft_tryFree) else ck it_tryMany 10 (lt (it_tryMany + 1) fun n9 => some (n9, n9, upd ft_tryRow (Int32.toNatClampNeg it_tryMany) x1, upd ft_tryLong (Int32.toNatClampNeg it_tryMany) x2, upd ft_tryFree (Int32.toNatClampNeg it_tryMany) ((vp_nar .boolean x3)))))))
set_option maxHeartbeats 4000000 in
set_option maxRecDepth 100000 in
theorem ctX8_attempt (l : Launch) (D : va_G) (cI cZ cB cS : ClassId) (kK kV : Nat → Nat) (sz : Nat) (qt qt_w qt_isKept qt_value qt_weight qt_newTube qt_newPrice qt_newLow qt_newHigh qt_newGoods qt_rhythm qt_rhythmLong qt_slug qt_text qt_of qt_buyerColumn qt_buyerKind qt_buyerCoins qt_tryRow qt_tryLong qt_tryFree : Nat) (it_kinds : Int32) (it_columns : Int32) (it_slugs : Int32) (it_newKinds : Int32) (it_newColumns : Int32) (it_newSlugs : Int32) (it_rhythmTold : Int32) (it_textSize : Int32) (it_at : Int32) (it_first : Int32) (it_length : Int32) (it_faultOf : Int32) (it_fault : Int32) (it_buyerMany : Int32) (it_tryMany : Int32) (ft_tryRow : Nat → Int32) (ft_tryLong : Nat → Int32) (ft_tryFree : Nat → Int32) (x1 : Int32) (x2 : Int32) (x3 : Int32) (N : Nat) (r0 : Int32) (w_it_tryMany : Int32) (w_ft_tryRow : Nat → Int32) (w_ft_tryLong : Nat → Int32) (w_ft_tryFree : Nat → Int32) (h : fX8_attempt N it_tryMany ft_tryRow ft_tryLong ft_tryFree x1 x2 x3 = some (r0, w_it_tryMany, w_ft_tryRow, w_ft_tryLong, w_ft_tryFree)) : CtI l yX8_attempt wsX8_attempt { frames := 1, cells := 0, slots := 0, locals := 25 } D (TY cI cZ cB cS) kK kV [.ref qt, .int x1, .int x2, .int x3] [(qt, .inr (8, [.ref qt_w, .ref qt_isKept, .ref qt_value, .ref qt_weight, .ref qt_newTube, .ref qt_newPrice, .ref qt_newLow, .ref qt_newHigh, .ref qt_newGoods, .ref qt_rhythm, .ref qt_rhythmLong, .ref qt_slug, .int it_kinds, .int it_columns, .int it_slugs, .int it_newKinds, .int it_newColumns, .int it_newSlugs, .int it_rhythmTold, .ref qt_text, .int it_textSize, .int it_at, .int it_first, .int it_length, .int it_faultOf, .int it_fault, .ref qt_of, .ref qt_buyerColumn, .ref qt_buyerKind, .ref qt_buyerCoins, .int it_buyerMany, .ref qt_tryRow, .ref qt_tryLong, .ref qt_tryFree, .int it_tryMany])), (qt_tryRow, .inl (cI, 10, .inl ft_tryRow)), (qt_tryLong, .inl (cI, 10, .inl ft_tryLong)), (qt_tryFree, .inl (cZ, 10, .inl ft_tryFree))] [(qt, .inr (8, [.ref qt_w, .ref qt_isKept, .ref qt_value, .ref qt_weight, .ref qt_newTube, .ref qt_newPrice, .ref qt_newLow, .ref qt_newHigh, .ref qt_newGoods, .ref qt_rhythm, .ref qt_rhythmLong, .ref qt_slug, .int it_kinds, .int it_columns, .int it_slugs, .int it_newKinds, .int it_newColumns, .int it_newSlugs, .int it_rhythmTold, .ref qt_text, .int it_textSize, .int it_at, .int it_first, .int it_length, .int it_faultOf, .int it_fault, .ref qt_of, .ref qt_buyerColumn, .ref qt_buyerKind, .ref qt_buyerCoins, .int it_buyerMany, .ref qt_tryRow, .ref qt_tryLong, .ref qt_tryFree, .int w_it_tryMany])), (qt_tryRow, .inl (cI, 10, .inl w_ft_tryRow)), (qt_tryLong, .inl (cI, 10, .inl w_ft_tryLong)), (qt_tryFree, .inl (cZ, 10, .inl w_ft_tryFree))] sz r0 := by
  refine mkI (cc := cX8_attempt) (maxL := 4) (rt := .int) (own := RX8) (by decide) rfl rfl (Nat.le_of_ble_eq_true rfl) ?_
  intro p e s m args below meth c A Z ls hx hb hml hown hts hK hN hX hP hD hA hS hret hl
  have hl : lv_has ls 4 [(0, .ref qt), (1, .int x1), (2, .int x2), (3, .int x3)] := hl
  have cn75 : (Cond.constantLong RX8 75 (8)).before args s = true := hts _ (List.mem_of_getElem? (l := wsX8_attempt) (i := 1) rfl)
  have cn81 : (Cond.constant RX8 81 (-1000000002)).before args s = true := hts _ (List.mem_of_getElem? (l := wsX8_attempt) (i := 2) rfl)
  have fl176 : (Cond.fieldLink RX8 176 "SoupWallModel" "tryMany" "I").before args s = true := hts _ (List.mem_of_getElem? (l := wsX8_attempt) (i := 3) rfl)
  have hiX8 : ∀ w ∈ wsX80, w ∈ wsX8_attempt := fun w h => List.mem_cons_of_mem _ (List.mem_append_right _ h)
  have fl66 : (Cond.fieldLink RX8 66 "SoupWallModel" "tryRow" "[I").before args s = true := hts _ (List.mem_of_getElem? (l := wsX8_attempt) (i := 5) rfl)
  have fl69 : (Cond.fieldLink RX8 69 "SoupWallModel" "tryLong" "[I").before args s = true := hts _ (List.mem_of_getElem? (l := wsX8_attempt) (i := 6) rfl)
  have fl72 : (Cond.fieldLink RX8 72 "SoupWallModel" "tryFree" "[Z").before args s = true := hts _ (List.mem_of_getElem? (l := wsX8_attempt) (i := 7) rfl)
  have cn85 : (Cond.constant RX8 85 (-1000000004)).before args s = true := hts _ (List.mem_of_getElem? (l := wsX8_attempt) (i := 4) rfl)
  unfold fX8_attempt at h
  refine lv_iload_n hx hb dX8_attempt_0 rfl (lv_at hl 2 rfl) ?_
  refine lv_i2l (v := Int32.toInt64 x2) hx hb dX8_attempt_1 rfl ?_
  refine lv_lconst (v := 1) hx hb dX8_attempt_2 (by decide) ?_
  refine lv_ldc2 (v := 8) hx hb hown cn75 dX8_attempt_3 ?_
  replace h := bd_el h
  obtain ⟨r1, hc2, h⟩ := h
  refine callSI (rest := []) ⟨hx, hb, hml, hown, hts⟩ (ctX8_in l D cI cZ cB cS kK kV _ (Int32.toInt64 x2) 1 8 N r1 hc2) (va_cwS 3 hts gX8_attempt_X8_in rfl rfl rfl hdX8_in ⟨Nat.le_of_ble_eq_true rfl, Nat.le_of_ble_eq_true rfl⟩) hK hN hX hP (dF hD rfl) hS hA [] mcN (by decide +kernel) [(qt, .inr (8, [.ref qt_w, .ref qt_isKept, .ref qt_value, .ref qt_weight, .ref qt_newTube, .ref qt_newPrice, .ref qt_newLow, .ref qt_newHigh, .ref qt_newGoods, .ref qt_rhythm, .ref qt_rhythmLong, .ref qt_slug, .int it_kinds, .int it_columns, .int it_slugs, .int it_newKinds, .int it_newColumns, .int it_newSlugs, .int it_rhythmTold, .ref qt_text, .int it_textSize, .int it_at, .int it_first, .int it_length, .int it_faultOf, .int it_fault, .ref qt_of, .ref qt_buyerColumn, .ref qt_buyerKind, .ref qt_buyerCoins, .int it_buyerMany, .ref qt_tryRow, .ref qt_tryLong, .ref qt_tryFree, .int it_tryMany])), (qt_tryRow, .inl (cI, 10, .inl ft_tryRow)), (qt_tryLong, .inl (cI, 10, .inl ft_tryLong)), (qt_tryFree, .inl (cZ, 10, .inl ft_tryFree))] [0, 1, 2, 3] mcN ((mcC rfl (mcC rfl (mcC rfl (mcC rfl mcN)))).trans (mcC rfl (mcC rfl (mcC rfl (mcC rfl mcN)))).symm) 4 rfl (by decide +kernel) rfl hl.1 rfl (Nat.le_of_ble_eq_true rfl) ⟨Nat.zero_le _, Nat.zero_le _⟩ dX8_attempt_6 (fun H locs hP hS => ?_)
  refine lv_if_eq (tgt := 27) hx hb dX8_attempt_9 (by decide) (fun c3 => ?_) (fun c3 => ?_)
  · replace h := if_t c3 h
    refine lv_ldc (v := (-1000000002)) hx hb hown cn81 dX8_attempt_27 ?_
    simp only [Option.some.injEq, Prod.mk.injEq] at h
    obtain ⟨rfl, rfl, rfl, rfl, rfl⟩ := h
    exact hret _ _ _ _ hP hS rfl dX8_attempt_29
  · replace h := if_f c3 h
    refine lv_iload_n hx hb dX8_attempt_12 rfl (lv_at hl 1 rfl) ?_
    refine lv_i2l (v := Int32.toInt64 x1) hx hb dX8_attempt_13 rfl ?_
    refine lv_lconst (v := 0) hx hb dX8_attempt_14 (by decide) ?_
    refine lv_iconst (v := 1) hx hb dX8_attempt_15 (by decide) ?_
    refine lv_iload_n hx hb dX8_attempt_16 rfl (lv_at hl 2 rfl) ?_
    refine lv_ishl hx hb dX8_attempt_17 ?_
    refine lv_iconst (v := 1) hx hb dX8_attempt_18 (by decide) ?_
    refine lv_isub hx hb dX8_attempt_19 ?_
    refine lv_i2l (v := Int32.toInt64 ((1 <<< (x2 &&& 31)) - 1)) hx hb dX8_attempt_20 rfl ?_
    replace h := bd_el h
    obtain ⟨r4, hc5, h⟩ := h
    refine callSI (rest := []) ⟨hx, hb, hml, hown, hts⟩ (ctX8_in l D cI cZ cB cS kK kV _ (Int32.toInt64 x1) 0 (Int32.toInt64 ((1 <<< (x2 &&& 31)) - 1)) N r4 hc5) (va_cwS 3 hts gX8_attempt_X8_in rfl rfl rfl hdX8_in ⟨Nat.le_of_ble_eq_true rfl, Nat.le_of_ble_eq_true rfl⟩) hK hN hX hP (dF hD rfl) hS hA [] mcN (by decide +kernel) [(qt, .inr (8, [.ref qt_w, .ref qt_isKept, .ref qt_value, .ref qt_weight, .ref qt_newTube, .ref qt_newPrice, .ref qt_newLow, .ref qt_newHigh, .ref qt_newGoods, .ref qt_rhythm, .ref qt_rhythmLong, .ref qt_slug, .int it_kinds, .int it_columns, .int it_slugs, .int it_newKinds, .int it_newColumns, .int it_newSlugs, .int it_rhythmTold, .ref qt_text, .int it_textSize, .int it_at, .int it_first, .int it_length, .int it_faultOf, .int it_fault, .ref qt_of, .ref qt_buyerColumn, .ref qt_buyerKind, .ref qt_buyerCoins, .int it_buyerMany, .ref qt_tryRow, .ref qt_tryLong, .ref qt_tryFree, .int it_tryMany])), (qt_tryRow, .inl (cI, 10, .inl ft_tryRow)), (qt_tryLong, .inl (cI, 10, .inl ft_tryLong)), (qt_tryFree, .inl (cZ, 10, .inl ft_tryFree))] [0, 1, 2, 3] mcN ((mcC rfl (mcC rfl (mcC rfl (mcC rfl mcN)))).trans (mcC rfl (mcC rfl (mcC rfl (mcC rfl mcN)))).symm) 4 rfl (by decide +kernel) rfl hl.1 rfl (Nat.le_of_ble_eq_true rfl) ⟨Nat.zero_le _, Nat.zero_le _⟩ dX8_attempt_21 (fun H locs hP hS => ?_)
    refine lv_if_ne (tgt := 30) hx hb dX8_attempt_24 (by decide) (fun c6 => ?_) (fun c6 => ?_)
    · replace h := if_f c6 h
      refine lv_aload_n hx hb dX8_attempt_30 rfl (lv_at hl 0 rfl) ?_
      refine va_get (ci := 8) (v := .int it_tryMany) (C := RX8) (T := TX8) (N := 35) hx hb hts hiX8 hown hK hP 0 rfl rfl 34 (by decide) fl176 (fun _ h9 => h9) rfl dX8_attempt_31 ?_
      refine lv_bipush (v := 10) hx hb dX8_attempt_34 (by decide) ?_
      refine lv_icmp_ne (tgt := 42) hx hb dX8_attempt_36 (by decide) (fun c7 => ?_) (fun c7 => ?_)
      · replace h := if_f c7 h
        refine lv_aload_n hx hb dX8_attempt_42 rfl (lv_at hl 0 rfl) ?_
        refine va_get (ci := 8) (v := .ref qt_tryRow) (C := RX8) (T := TX8) (N := 35) hx hb hts hiX8 hown hK hP 0 rfl rfl 31 (by decide) fl66 (fun _ h9 => h9) rfl dX8_attempt_43 ?_
        refine lv_aload_n hx hb dX8_attempt_46 rfl (lv_at hl 0 rfl) ?_
        refine va_get (ci := 8) (v := .int it_tryMany) (C := RX8) (T := TX8) (N := 35) hx hb hts hiX8 hown hK hP 0 rfl rfl 34 (by decide) fl176 (fun _ h9 => h9) rfl dX8_attempt_47 ?_
        refine lv_iload_n hx hb dX8_attempt_50 rfl (lv_at hl 1 rfl) ?_
        replace h := ck_el h
        obtain ⟨hi8, h⟩ := h
        refine va_iast hx hb hK hP (dF hD rfl) hS 1 0 rfl rfl hi8 dX8_attempt_51 (fun H locs hP _ hS => ?_)
        replace hP : va_P D vwCl [(qt, .inr (8, [.ref qt_w, .ref qt_isKept, .ref qt_value, .ref qt_weight, .ref qt_newTube, .ref qt_newPrice, .ref qt_newLow, .ref qt_newHigh, .ref qt_newGoods, .ref qt_rhythm, .ref qt_rhythmLong, .ref qt_slug, .int it_kinds, .int it_columns, .int it_slugs, .int it_newKinds, .int it_newColumns, .int it_newSlugs, .int it_rhythmTold, .ref qt_text, .int it_textSize, .int it_at, .int it_first, .int it_length, .int it_faultOf, .int it_fault, .ref qt_of, .ref qt_buyerColumn, .ref qt_buyerKind, .ref qt_buyerCoins, .int it_buyerMany, .ref qt_tryRow, .ref qt_tryLong, .ref qt_tryFree, .int it_tryMany])), (qt_tryRow, .inl (cI, 10, .inl (upd ft_tryRow (Int32.toNatClampNeg it_tryMany) x1))), (qt_tryLong, .inl (cI, 10, .inl ft_tryLong)), (qt_tryFree, .inl (cZ, 10, .inl ft_tryFree))] H := hP
        refine lv_aload_n hx hb dX8_attempt_52 rfl (lv_at hl 0 rfl) ?_
        refine va_get (ci := 8) (v := .ref qt_tryLong) (C := RX8) (T := TX8) (N := 35) hx hb hts hiX8 hown hK hP 0 rfl rfl 32 (by decide) fl69 (fun _ h9 => h9) rfl dX8_attempt_53 ?_
        refine lv_aload_n hx hb dX8_attempt_56 rfl (lv_at hl 0 rfl) ?_
        refine va_get (ci := 8) (v := .int it_tryMany) (C := RX8) (T := TX8) (N := 35) hx hb hts hiX8 hown hK hP 0 rfl rfl 34 (by decide) fl176 (fun _ h9 => h9) rfl dX8_attempt_57 ?_
        refine lv_iload_n hx hb dX8_attempt_60 rfl (lv_at hl 2 rfl) ?_
        refine va_iast hx hb hK hP (dF hD rfl) hS 2 0 rfl rfl hi8 dX8_attempt_61 (fun H locs hP _ hS => ?_)
        replace hP : va_P D vwCl [(qt, .inr (8, [.ref qt_w, .ref qt_isKept, .ref qt_value, .ref qt_weight, .ref qt_newTube, .ref qt_newPrice, .ref qt_newLow, .ref qt_newHigh, .ref qt_newGoods, .ref qt_rhythm, .ref qt_rhythmLong, .ref qt_slug, .int it_kinds, .int it_columns, .int it_slugs, .int it_newKinds, .int it_newColumns, .int it_newSlugs, .int it_rhythmTold, .ref qt_text, .int it_textSize, .int it_at, .int it_first, .int it_length, .int it_faultOf, .int it_fault, .ref qt_of, .ref qt_buyerColumn, .ref qt_buyerKind, .ref qt_buyerCoins, .int it_buyerMany, .ref qt_tryRow, .ref qt_tryLong, .ref qt_tryFree, .int it_tryMany])), (qt_tryRow, .inl (cI, 10, .inl (upd ft_tryRow (Int32.toNatClampNeg it_tryMany) x1))), (qt_tryLong, .inl (cI, 10, .inl (upd ft_tryLong (Int32.toNatClampNeg it_tryMany) x2))), (qt_tryFree, .inl (cZ, 10, .inl ft_tryFree))] H := hP
        refine lv_aload_n hx hb dX8_attempt_62 rfl (lv_at hl 0 rfl) ?_
        refine va_get (ci := 8) (v := .ref qt_tryFree) (C := RX8) (T := TX8) (N := 35) hx hb hts hiX8 hown hK hP 0 rfl rfl 33 (by decide) fl72 (fun _ h9 => h9) rfl dX8_attempt_63 ?_
        refine lv_aload_n hx hb dX8_attempt_66 rfl (lv_at hl 0 rfl) ?_
        refine va_get (ci := 8) (v := .int it_tryMany) (C := RX8) (T := TX8) (N := 35) hx hb hts hiX8 hown hK hP 0 rfl rfl 34 (by decide) fl176 (fun _ h9 => h9) rfl dX8_attempt_67 ?_
        refine lv_iload_n hx hb dX8_attempt_70 rfl (lv_at hl 3 rfl) ?_
        refine va_zast hx hb hK hP (dF hD rfl) hS 3 1 rfl rfl hi8 dX8_attempt_71 (fun H locs hP _ hS => ?_)
        replace hP : va_P D vwCl [(qt, .inr (8, [.ref qt_w, .ref qt_isKept, .ref qt_value, .ref qt_weight, .ref qt_newTube, .ref qt_newPrice, .ref qt_newLow, .ref qt_newHigh, .ref qt_newGoods, .ref qt_rhythm, .ref qt_rhythmLong, .ref qt_slug, .int it_kinds, .int it_columns, .int it_slugs, .int it_newKinds, .int it_newColumns, .int it_newSlugs, .int it_rhythmTold, .ref qt_text, .int it_textSize, .int it_at, .int it_first, .int it_length, .int it_faultOf, .int it_fault, .ref qt_of, .ref qt_buyerColumn, .ref qt_buyerKind, .ref qt_buyerCoins, .int it_buyerMany, .ref qt_tryRow, .ref qt_tryLong, .ref qt_tryFree, .int it_tryMany])), (qt_tryRow, .inl (cI, 10, .inl (upd ft_tryRow (Int32.toNatClampNeg it_tryMany) x1))), (qt_tryLong, .inl (cI, 10, .inl (upd ft_tryLong (Int32.toNatClampNeg it_tryMany) x2))), (qt_tryFree, .inl (cZ, 10, .inl (upd ft_tryFree (Int32.toNatClampNeg it_tryMany) ((vp_nar .boolean x3)))))] H := hP
        refine lv_aload_n hx hb dX8_attempt_72 rfl (lv_at hl 0 rfl) ?_
        refine lv_dup hx hb dX8_attempt_73 rfl ?_
        refine va_get (ci := 8) (v := .int it_tryMany) (C := RX8) (T := TX8) (N := 35) hx hb hts hiX8 hown hK hP 0 rfl rfl 34 (by decide) fl176 (fun _ h9 => h9) rfl dX8_attempt_74 ?_
        refine lv_iconst (v := 1) hx hb dX8_attempt_77 (by decide) ?_
        refine lv_iadd hx hb dX8_attempt_78 ?_
        refine lv_topi (fun n9 en9 => ?_)
        replace h := lt_at en9 h
        refine va_put (ci := 8) (v := .int n9) (ty := .int) (C := RX8) (T := TX8) (N := 35) hx hb hts hiX8 tyX8 tyX8_ok nmX8 hown hK hP (dF hD rfl) hS 0 rfl rfl 34 (by decide) fl176 (fun _ h9 => h9) rfl (by decide +kernel) rfl rfl (Nat.le_of_ble_eq_true rfl) dX8_attempt_79 (fun H locs hP _ hS => ?_)
        replace hP : va_P D vwCl [(qt, .inr (8, [.ref qt_w, .ref qt_isKept, .ref qt_value, .ref qt_weight, .ref qt_newTube, .ref qt_newPrice, .ref qt_newLow, .ref qt_newHigh, .ref qt_newGoods, .ref qt_rhythm, .ref qt_rhythmLong, .ref qt_slug, .int it_kinds, .int it_columns, .int it_slugs, .int it_newKinds, .int it_newColumns, .int it_newSlugs, .int it_rhythmTold, .ref qt_text, .int it_textSize, .int it_at, .int it_first, .int it_length, .int it_faultOf, .int it_fault, .ref qt_of, .ref qt_buyerColumn, .ref qt_buyerKind, .ref qt_buyerCoins, .int it_buyerMany, .ref qt_tryRow, .ref qt_tryLong, .ref qt_tryFree, .int n9])), (qt_tryRow, .inl (cI, 10, .inl (upd ft_tryRow (Int32.toNatClampNeg it_tryMany) x1))), (qt_tryLong, .inl (cI, 10, .inl (upd ft_tryLong (Int32.toNatClampNeg it_tryMany) x2))), (qt_tryFree, .inl (cZ, 10, .inl (upd ft_tryFree (Int32.toNatClampNeg it_tryMany) ((vp_nar .boolean x3)))))] H := hP
        refine lv_aload_n hx hb dX8_attempt_82 rfl (lv_at hl 0 rfl) ?_
        refine va_get (ci := 8) (v := .int n9) (C := RX8) (T := TX8) (N := 35) hx hb hts hiX8 hown hK hP 0 rfl rfl 34 (by decide) fl176 (fun _ h9 => h9) rfl dX8_attempt_83 ?_
        simp only [Option.some.injEq, Prod.mk.injEq] at h
        obtain ⟨rfl, rfl, rfl, rfl, rfl⟩ := h
        exact hret _ _ _ _ hP hS rfl dX8_attempt_86
      · replace h := if_t c7 h
        refine lv_ldc (v := (-1000000004)) hx hb hown cn85 dX8_attempt_39 ?_
        simp only [Option.some.injEq, Prod.mk.injEq] at h
        obtain ⟨rfl, rfl, rfl, rfl, rfl⟩ := h
        exact hret _ _ _ _ hP hS rfl dX8_attempt_41
    · replace h := if_t c6 h
      refine lv_ldc (v := (-1000000002)) hx hb hown cn81 dX8_attempt_27 ?_
      simp only [Option.some.injEq, Prod.mk.injEq] at h
      obtain ⟨rfl, rfl, rfl, rfl, rfl⟩ := h
      exact hret _ _ _ _ hP hS rfl dX8_attempt_29
theorem hdX8_attempt : yX8_attempt.cls = RX8 ∧ yX8_attempt.cls ≠ "java/lang/invoke/MethodHandle" ∧ yX8_attempt.cls ≠ "java/lang/invoke/VarHandle" ∧ (parseMethodDescriptor yX8_attempt.desc).map (fun d => d.parameters.length) = some 3 := by decide +kernel

noncomputable def fX8_freeAt_L5 (N : Nat) : Nat → Int32 → Int32 → Int32 → Int32 → (Nat → Int32) → (Nat → Int32) → Option ((Unit) ⊕ (Int32))
  | 0, _, _, _, _, _, _ => none
  | k + 1, x1, x2, x3, x4, ft_tryLong, ft_tryRow => ck x1 10 ((if (ft_tryLong (Int32.toNatClampNeg x1)) ≤ x4 then some (.inl ()) else (if (((ft_tryRow (Int32.toNatClampNeg x1)) >>> (((x4 - x2) + 1) &&& 31)) &&& ((1 <<< (x2 &&& 31)) - 1)) = x3 then some (.inr x4) else lt (x4 + 1) fun n4 => fX8_freeAt_L5 N k x1 x2 x3 n4 ft_tryLong ft_tryRow)))
theorem fX8_freeAt_L5_s (N : Nat) (k : Nat) (x1 : Int32) (x2 : Int32) (x3 : Int32) (x4 : Int32) (ft_tryLong : Nat → Int32) (ft_tryRow : Nat → Int32) : fX8_freeAt_L5 N (k + 1) x1 x2 x3 x4 ft_tryLong ft_tryRow = (ck x1 10 ((if (ft_tryLong (Int32.toNatClampNeg x1)) ≤ x4 then some (.inl ()) else (if (((ft_tryRow (Int32.toNatClampNeg x1)) >>> (((x4 - x2) + 1) &&& 31)) &&& ((1 <<< (x2 &&& 31)) - 1)) = x3 then some (.inr x4) else lt (x4 + 1) fun n4 => fX8_freeAt_L5 N k x1 x2 x3 n4 ft_tryLong ft_tryRow)))) := rfl
noncomputable def fX8_freeAt (N : Nat) (ft_tryLong : Nat → Int32) (ft_tryRow : Nat → Int32) (x1 : Int32) (x2 : Int32) (x3 : Int32) : Option (Int32) := lt (x2 - 1) fun n5 => bd (fX8_freeAt_L5 N N x1 x2 x3 n5 ft_tryLong ft_tryRow) fun o => match o with | .inr rr => some rr | .inl _ => some (-1)
set_option maxHeartbeats 4000000 in
set_option maxRecDepth 100000 in
theorem ctX8_freeAt (l : Launch) (D : va_G) (cI cZ cB cS : ClassId) (kK kV : Nat → Nat) (sz : Nat) (qt qt_w qt_isKept qt_value qt_weight qt_newTube qt_newPrice qt_newLow qt_newHigh qt_newGoods qt_rhythm qt_rhythmLong qt_slug qt_text qt_of qt_buyerColumn qt_buyerKind qt_buyerCoins qt_tryRow qt_tryLong qt_tryFree : Nat) (it_kinds : Int32) (it_columns : Int32) (it_slugs : Int32) (it_newKinds : Int32) (it_newColumns : Int32) (it_newSlugs : Int32) (it_rhythmTold : Int32) (it_textSize : Int32) (it_at : Int32) (it_first : Int32) (it_length : Int32) (it_faultOf : Int32) (it_fault : Int32) (it_buyerMany : Int32) (it_tryMany : Int32) (ft_tryLong : Nat → Int32) (ft_tryRow : Nat → Int32) (x1 : Int32) (x2 : Int32) (x3 : Int32) (N : Nat) (r0 : Int32)  (h : fX8_freeAt N ft_tryLong ft_tryRow x1 x2 x3 = some r0) : CtI l yX8_freeAt wsX8_freeAt { frames := 0, cells := 0, slots := 0, locals := 0 } D (TY cI cZ cB cS) kK kV [.ref qt, .int x1, .int x2, .int x3] [(qt, .inr (8, [.ref qt_w, .ref qt_isKept, .ref qt_value, .ref qt_weight, .ref qt_newTube, .ref qt_newPrice, .ref qt_newLow, .ref qt_newHigh, .ref qt_newGoods, .ref qt_rhythm, .ref qt_rhythmLong, .ref qt_slug, .int it_kinds, .int it_columns, .int it_slugs, .int it_newKinds, .int it_newColumns, .int it_newSlugs, .int it_rhythmTold, .ref qt_text, .int it_textSize, .int it_at, .int it_first, .int it_length, .int it_faultOf, .int it_fault, .ref qt_of, .ref qt_buyerColumn, .ref qt_buyerKind, .ref qt_buyerCoins, .int it_buyerMany, .ref qt_tryRow, .ref qt_tryLong, .ref qt_tryFree, .int it_tryMany])), (qt_tryLong, .inl (cI, 10, .inl ft_tryLong)), (qt_tryRow, .inl (cI, 10, .inl ft_tryRow))] [(qt, .inr (8, [.ref qt_w, .ref qt_isKept, .ref qt_value, .ref qt_weight, .ref qt_newTube, .ref qt_newPrice, .ref qt_newLow, .ref qt_newHigh, .ref qt_newGoods, .ref qt_rhythm, .ref qt_rhythmLong, .ref qt_slug, .int it_kinds, .int it_columns, .int it_slugs, .int it_newKinds, .int it_newColumns, .int it_newSlugs, .int it_rhythmTold, .ref qt_text, .int it_textSize, .int it_at, .int it_first, .int it_length, .int it_faultOf, .int it_fault, .ref qt_of, .ref qt_buyerColumn, .ref qt_buyerKind, .ref qt_buyerCoins, .int it_buyerMany, .ref qt_tryRow, .ref qt_tryLong, .ref qt_tryFree, .int it_tryMany])), (qt_tryLong, .inl (cI, 10, .inl ft_tryLong)), (qt_tryRow, .inl (cI, 10, .inl ft_tryRow))] sz r0 := by
  refine mkI (cc := cX8_freeAt) (maxL := 5) (rt := .int) (own := RX8) (by decide) rfl rfl (Nat.le_of_ble_eq_true rfl) ?_
  intro p e s m args below meth c A Z ls hx hb hml hown hts hK hN hX hP hD hA hS hret hl
  have hl : lv_has ls 5 [(0, .ref qt), (1, .int x1), (2, .int x2), (3, .int x3)] := hl
  have fl69 : (Cond.fieldLink RX8 69 "SoupWallModel" "tryLong" "[I").before args s = true := hts _ (List.mem_of_getElem? (l := wsX8_freeAt) (i := 1) rfl)
  have hiX8 : ∀ w ∈ wsX80, w ∈ wsX8_freeAt := fun w h => List.mem_cons_of_mem _ (List.mem_append_right _ h)
  have fl66 : (Cond.fieldLink RX8 66 "SoupWallModel" "tryRow" "[I").before args s = true := hts _ (List.mem_of_getElem? (l := wsX8_freeAt) (i := 2) rfl)
  have lp5 : ∀ (k : Nat) (x1 : Int32) (x2 : Int32) (x3 : Int32) (x4 : Int32)  (H : Heap) (locs : List Loc) (ls : Array Slot) (o : (Unit) ⊕ (Int32)), fX8_freeAt_L5 N k x1 x2 x3 x4 ft_tryLong ft_tryRow = some o → va_P D vwCl [(qt, .inr (8, [.ref qt_w, .ref qt_isKept, .ref qt_value, .ref qt_weight, .ref qt_newTube, .ref qt_newPrice, .ref qt_newLow, .ref qt_newHigh, .ref qt_newGoods, .ref qt_rhythm, .ref qt_rhythmLong, .ref qt_slug, .int it_kinds, .int it_columns, .int it_slugs, .int it_newKinds, .int it_newColumns, .int it_newSlugs, .int it_rhythmTold, .ref qt_text, .int it_textSize, .int it_at, .int it_first, .int it_length, .int it_faultOf, .int it_fault, .ref qt_of, .ref qt_buyerColumn, .ref qt_buyerKind, .ref qt_buyerCoins, .int it_buyerMany, .ref qt_tryRow, .ref qt_tryLong, .ref qt_tryFree, .int it_tryMany])), (qt_tryLong, .inl (cI, 10, .inl ft_tryLong)), (qt_tryRow, .inl (cI, 10, .inl ft_tryRow))] H → va_S A s.heap H locs → lv_has ls 5 [(0, .ref qt), (1, .int x1), (2, .int x2), (3, .int x3), (4, .int x4)] → (∀ rr, .inr rr = o → rr = r0) → (.inl () = o → ∀ (H : Heap) (locs : List Loc) (ls : Array Slot), va_P D vwCl [(qt, .inr (8, [.ref qt_w, .ref qt_isKept, .ref qt_value, .ref qt_weight, .ref qt_newTube, .ref qt_newPrice, .ref qt_newLow, .ref qt_newHigh, .ref qt_newGoods, .ref qt_rhythm, .ref qt_rhythmLong, .ref qt_slug, .int it_kinds, .int it_columns, .int it_slugs, .int it_newKinds, .int it_newColumns, .int it_newSlugs, .int it_rhythmTold, .ref qt_text, .int it_textSize, .int it_at, .int it_first, .int it_length, .int it_faultOf, .int it_fault, .ref qt_of, .ref qt_buyerColumn, .ref qt_buyerKind, .ref qt_buyerCoins, .int it_buyerMany, .ref qt_tryRow, .ref qt_tryLong, .ref qt_tryFree, .int it_tryMany])), (qt_tryLong, .inl (cI, 10, .inl ft_tryLong)), (qt_tryRow, .inl (cI, 10, .inl ft_tryRow))] H → va_S A s.heap H locs → lv_has ls 5 [] → W p l e ({ frames := 0, cells := 0, slots := 0, locals := 0 } : Room) s m args below meth c H locs 0 0 Z (F0 m 48 ls [])) → W p l e ({ frames := 0, cells := 0, slots := 0, locals := 0 } : Room) s m args below meth c H locs 0 0 Z (F0 m 5 ls []) := by
    intro k
    induction k with
    | zero =>
      intro x1 x2 x3 x4 H locs ls o h
      exact nomatch (show (none : Option ((Unit) ⊕ (Int32))) = some o from h)
    | succ k ih =>
      intro x1 x2 x3 x4 H locs ls o h hP hS hl KR K
      rw [fX8_freeAt_L5_s] at h
      refine lv_iload hx hb dX8_freeAt_5 (lv_at hl 4 rfl) ?_
      refine lv_aload_n hx hb dX8_freeAt_7 rfl (lv_at hl 0 rfl) ?_
      refine va_get (ci := 8) (v := .ref qt_tryLong) (C := RX8) (T := TX8) (N := 35) hx hb hts hiX8 hown hK hP 0 rfl rfl 32 (by decide) fl69 (fun _ h9 => h9) rfl dX8_freeAt_8 ?_
      refine lv_iload_n hx hb dX8_freeAt_11 rfl (lv_at hl 1 rfl) ?_
      replace h := ck_el h
      obtain ⟨hi1, h⟩ := h
      refine va_iald hx hb hK hP 1 0 rfl rfl hi1 dX8_freeAt_12 ?_
      refine lv_icmp_ge (tgt := 48) hx hb dX8_freeAt_13 (by decide) (fun c2 => ?_) (fun c2 => ?_)
      · replace h := if_t c2 h
        exact K  (Option.some.inj h) _ _ _ hP hS (lv_sub hl [] rfl)
      · replace h := if_f c2 h
        refine lv_aload_n hx hb dX8_freeAt_16 rfl (lv_at hl 0 rfl) ?_
        refine va_get (ci := 8) (v := .ref qt_tryRow) (C := RX8) (T := TX8) (N := 35) hx hb hts hiX8 hown hK hP 0 rfl rfl 31 (by decide) fl66 (fun _ h9 => h9) rfl dX8_freeAt_17 ?_
        refine lv_iload_n hx hb dX8_freeAt_20 rfl (lv_at hl 1 rfl) ?_
        refine va_iald hx hb hK hP 2 0 rfl rfl hi1 dX8_freeAt_21 ?_
        refine lv_iload hx hb dX8_freeAt_22 (lv_at hl 4 rfl) ?_
        refine lv_iload_n hx hb dX8_freeAt_24 rfl (lv_at hl 2 rfl) ?_
        refine lv_isub hx hb dX8_freeAt_25 ?_
        refine lv_iconst (v := 1) hx hb dX8_freeAt_26 (by decide) ?_
        refine lv_iadd hx hb dX8_freeAt_27 ?_
        refine lv_ishr hx hb dX8_freeAt_28 ?_
        refine lv_iconst (v := 1) hx hb dX8_freeAt_29 (by decide) ?_
        refine lv_iload_n hx hb dX8_freeAt_30 rfl (lv_at hl 2 rfl) ?_
        refine lv_ishl hx hb dX8_freeAt_31 ?_
        refine lv_iconst (v := 1) hx hb dX8_freeAt_32 (by decide) ?_
        refine lv_isub hx hb dX8_freeAt_33 ?_
        refine lv_iand hx hb dX8_freeAt_34 ?_
        refine lv_iload_n hx hb dX8_freeAt_35 rfl (lv_at hl 3 rfl) ?_
        refine lv_icmp_ne (tgt := 42) hx hb dX8_freeAt_36 (by decide) (fun c3 => ?_) (fun c3 => ?_)
        · replace h := if_f c3 h
          obtain ⟨n4, en4⟩ : ∃ z : Int32, z = x4 + 1 := ⟨_, rfl⟩
          replace h := lt_at en4 h
          refine lv_iinc (v := n4) (lv' := [(4, .int n4), (0, .ref qt), (1, .int x1), (2, .int x2), (3, .int x3)]) hx hb dX8_freeAt_42 hl (k := 4) rfl (by rw [en4]; rfl) (by decide) rfl (fun ls hl => ?_)
          refine lv_goto (tgt := 5) hx hb dX8_freeAt_45 (by decide) ?_
          exact ih x1 x2 x3 n4 _ _ _ o h hP hS (lv_sub hl [1, 2, 3, 4, 0] rfl) KR K
        · replace h := if_t c3 h
          refine lv_iload hx hb dX8_freeAt_39 (lv_at hl 4 rfl) ?_
          have hz9 := KR _ (Option.some.inj h)
          subst hz9
          exact hret _ _ _ _ hP hS rfl dX8_freeAt_41
  unfold fX8_freeAt at h
  refine lv_iload_n hx hb dX8_freeAt_0 rfl (lv_at hl 2 rfl) ?_
  refine lv_iconst (v := 1) hx hb dX8_freeAt_1 (by decide) ?_
  refine lv_isub hx hb dX8_freeAt_2 ?_
  refine lv_topi (fun n5 en5 => ?_)
  replace h := lt_at en5 h
  refine lv_istore (lv' := [(4, .int n5), (0, .ref qt), (1, .int x1), (2, .int x2), (3, .int x3)]) hx hb dX8_freeAt_3 hl (by decide) rfl (fun ls hl => ?_)
  replace h := bd_el h
  obtain ⟨o6, ho6, h⟩ := h
  refine lp5 N x1 x2 x3 n5 _ _ _ o6 ho6 hP hS (lv_sub hl [1, 2, 3, 4, 0] rfl) (fun rr er => by subst er; exact Option.some.inj h) (fun  eo H locs ls hP hS hl => ?_)
  subst eo
  dsimp only at h
  refine lv_iconst (v := (-1)) hx hb dX8_freeAt_48 (by decide) ?_
  simp only [Option.some.injEq] at h
  subst h
  exact hret _ _ _ _ hP hS rfl dX8_freeAt_49
theorem hdX8_freeAt : yX8_freeAt.cls = RX8 ∧ yX8_freeAt.cls ≠ "java/lang/invoke/MethodHandle" ∧ yX8_freeAt.cls ≠ "java/lang/invoke/VarHandle" ∧ (parseMethodDescriptor yX8_freeAt.desc).map (fun d => d.parameters.length) = some 3 := by decide +kernel
