noncomputable def fX0_add (N : Nat) (it_count : Int32) (ft_column : Nat → Int32) (ft_kind : Nat → Int32) (ft_coins : Nat → Int32) (x1 : Int32) (x2 : Int32) (x3 : Int32) : Option (Int32 × Int32 × (Nat → Int32) × (Nat → Int32) × (Nat → Int32)) := (if it_count < 8 then ck it_count 8 (lt (it_count + 1) fun n3 => some (1, n3, upd ft_column (Int32.toNatClampNeg it_count) x1, upd ft_kind (Int32.toNatClampNeg it_count) x2, upd ft_coins (Int32.toNatClampNeg it_count) x3)) else some (0, it_count, ft_column, ft_kind, ft_coins))
set_option maxHeartbeats 4000000 in
set_option maxRecDepth 100000 in
theorem ctX0_add (l : Launch) (D : va_G) (cI cZ cB cS : ClassId) (kK kV : Nat → Nat) (sz : Nat) (qt qt_column qt_kind qt_coins : Nat) (it_count : Int32) (ft_column : Nat → Int32) (ft_kind : Nat → Int32) (ft_coins : Nat → Int32) (x1 : Int32) (x2 : Int32) (x3 : Int32) (N : Nat) (r0 : Int32) (w_it_count : Int32) (w_ft_column : Nat → Int32) (w_ft_kind : Nat → Int32) (w_ft_coins : Nat → Int32) (h : fX0_add N it_count ft_column ft_kind ft_coins x1 x2 x3 = some (r0, w_it_count, w_ft_column, w_ft_kind, w_ft_coins)) : CtI l yX0_add wsX0_add { frames := 0, cells := 0, slots := 0, locals := 0 } D (TY cI cZ cB cS) kK kV [.ref qt, .int x1, .int x2, .int x3] [(qt, .inr (0, [.ref qt_column, .ref qt_kind, .ref qt_coins, .int it_count])), (qt_column, .inl (cI, 8, .inl ft_column)), (qt_kind, .inl (cI, 8, .inl ft_kind)), (qt_coins, .inl (cI, 8, .inl ft_coins))] [(qt, .inr (0, [.ref qt_column, .ref qt_kind, .ref qt_coins, .int w_it_count])), (qt_column, .inl (cI, 8, .inl w_ft_column)), (qt_kind, .inl (cI, 8, .inl w_ft_kind)), (qt_coins, .inl (cI, 8, .inl w_ft_coins))] sz r0 := by
  refine mkI (cc := cX0_add) (maxL := 4) (rt := .boolean) (own := RX0) (by decide) rfl rfl (Nat.le_of_ble_eq_true rfl) ?_
  intro p e s m args below meth c A Z ls hx hb hml hown hts hK hN hX hP hD hA hS hret hl
  have hl : lv_has ls 4 [(0, .ref qt), (1, .int x1), (2, .int x2), (3, .int x3)] := hl
  have fl21 : (Cond.fieldLink RX0 21 "SoupWall$Buyers" "count" "I").before args s = true := hts _ (List.mem_of_getElem? (l := wsX0_add) (i := 1) rfl)
  have hiX0 : ∀ w ∈ wsX00, w ∈ wsX0_add := fun w h => List.mem_cons_of_mem _ (List.mem_append_right _ h)
  have fl9 : (Cond.fieldLink RX0 9 "SoupWall$Buyers" "column" "[I").before args s = true := hts _ (List.mem_of_getElem? (l := wsX0_add) (i := 2) rfl)
  have fl15 : (Cond.fieldLink RX0 15 "SoupWall$Buyers" "kind" "[I").before args s = true := hts _ (List.mem_of_getElem? (l := wsX0_add) (i := 3) rfl)
  have fl18 : (Cond.fieldLink RX0 18 "SoupWall$Buyers" "coins" "[I").before args s = true := hts _ (List.mem_of_getElem? (l := wsX0_add) (i := 4) rfl)
  unfold fX0_add at h
  refine lv_aload_n hx hb dX0_add_0 rfl (lv_at hl 0 rfl) ?_
  refine va_get (ci := 0) (v := .int it_count) (C := RX0) (T := TX0) (N := 4) hx hb hts hiX0 hown hK hP 0 rfl rfl 3 (by decide) fl21 (fun _ h9 => h9) rfl dX0_add_1 ?_
  refine lv_bipush (v := 8) hx hb dX0_add_4 (by decide) ?_
  refine lv_icmp_lt (tgt := 11) hx hb dX0_add_6 (by decide) (fun c1 => ?_) (fun c1 => ?_)
  · replace h := if_t c1 h
    refine lv_aload_n hx hb dX0_add_11 rfl (lv_at hl 0 rfl) ?_
    refine va_get (ci := 0) (v := .ref qt_column) (C := RX0) (T := TX0) (N := 4) hx hb hts hiX0 hown hK hP 0 rfl rfl 0 (by decide) fl9 (fun _ h9 => h9) rfl dX0_add_12 ?_
    refine lv_aload_n hx hb dX0_add_15 rfl (lv_at hl 0 rfl) ?_
    refine va_get (ci := 0) (v := .int it_count) (C := RX0) (T := TX0) (N := 4) hx hb hts hiX0 hown hK hP 0 rfl rfl 3 (by decide) fl21 (fun _ h9 => h9) rfl dX0_add_16 ?_
    refine lv_iload_n hx hb dX0_add_19 rfl (lv_at hl 1 rfl) ?_
    replace h := ck_el h
    obtain ⟨hi2, h⟩ := h
    refine va_iast hx hb hK hP (dF hD rfl) hS 1 0 rfl rfl hi2 dX0_add_20 (fun H locs hP _ hS => ?_)
    replace hP : va_P D vwCl [(qt, .inr (0, [.ref qt_column, .ref qt_kind, .ref qt_coins, .int it_count])), (qt_column, .inl (cI, 8, .inl (upd ft_column (Int32.toNatClampNeg it_count) x1))), (qt_kind, .inl (cI, 8, .inl ft_kind)), (qt_coins, .inl (cI, 8, .inl ft_coins))] H := hP
    refine lv_aload_n hx hb dX0_add_21 rfl (lv_at hl 0 rfl) ?_
    refine va_get (ci := 0) (v := .ref qt_kind) (C := RX0) (T := TX0) (N := 4) hx hb hts hiX0 hown hK hP 0 rfl rfl 1 (by decide) fl15 (fun _ h9 => h9) rfl dX0_add_22 ?_
    refine lv_aload_n hx hb dX0_add_25 rfl (lv_at hl 0 rfl) ?_
    refine va_get (ci := 0) (v := .int it_count) (C := RX0) (T := TX0) (N := 4) hx hb hts hiX0 hown hK hP 0 rfl rfl 3 (by decide) fl21 (fun _ h9 => h9) rfl dX0_add_26 ?_
    refine lv_iload_n hx hb dX0_add_29 rfl (lv_at hl 2 rfl) ?_
    refine va_iast hx hb hK hP (dF hD rfl) hS 2 0 rfl rfl hi2 dX0_add_30 (fun H locs hP _ hS => ?_)
    replace hP : va_P D vwCl [(qt, .inr (0, [.ref qt_column, .ref qt_kind, .ref qt_coins, .int it_count])), (qt_column, .inl (cI, 8, .inl (upd ft_column (Int32.toNatClampNeg it_count) x1))), (qt_kind, .inl (cI, 8, .inl (upd ft_kind (Int32.toNatClampNeg it_count) x2))), (qt_coins, .inl (cI, 8, .inl ft_coins))] H := hP
    refine lv_aload_n hx hb dX0_add_31 rfl (lv_at hl 0 rfl) ?_
    refine va_get (ci := 0) (v := .ref qt_coins) (C := RX0) (T := TX0) (N := 4) hx hb hts hiX0 hown hK hP 0 rfl rfl 2 (by decide) fl18 (fun _ h9 => h9) rfl dX0_add_32 ?_
    refine lv_aload_n hx hb dX0_add_35 rfl (lv_at hl 0 rfl) ?_
    refine va_get (ci := 0) (v := .int it_count) (C := RX0) (T := TX0) (N := 4) hx hb hts hiX0 hown hK hP 0 rfl rfl 3 (by decide) fl21 (fun _ h9 => h9) rfl dX0_add_36 ?_
    refine lv_iload_n hx hb dX0_add_39 rfl (lv_at hl 3 rfl) ?_
    refine va_iast hx hb hK hP (dF hD rfl) hS 3 0 rfl rfl hi2 dX0_add_40 (fun H locs hP _ hS => ?_)
    replace hP : va_P D vwCl [(qt, .inr (0, [.ref qt_column, .ref qt_kind, .ref qt_coins, .int it_count])), (qt_column, .inl (cI, 8, .inl (upd ft_column (Int32.toNatClampNeg it_count) x1))), (qt_kind, .inl (cI, 8, .inl (upd ft_kind (Int32.toNatClampNeg it_count) x2))), (qt_coins, .inl (cI, 8, .inl (upd ft_coins (Int32.toNatClampNeg it_count) x3)))] H := hP
    refine lv_aload_n hx hb dX0_add_41 rfl (lv_at hl 0 rfl) ?_
    refine lv_dup hx hb dX0_add_42 rfl ?_
    refine va_get (ci := 0) (v := .int it_count) (C := RX0) (T := TX0) (N := 4) hx hb hts hiX0 hown hK hP 0 rfl rfl 3 (by decide) fl21 (fun _ h9 => h9) rfl dX0_add_43 ?_
    refine lv_iconst (v := 1) hx hb dX0_add_46 (by decide) ?_
    refine lv_iadd hx hb dX0_add_47 ?_
    refine lv_topi (fun n3 en3 => ?_)
    replace h := lt_at en3 h
    refine va_put (ci := 0) (v := .int n3) (ty := .int) (C := RX0) (T := TX0) (N := 4) hx hb hts hiX0 tyX0 tyX0_ok nmX0 hown hK hP (dF hD rfl) hS 0 rfl rfl 3 (by decide) fl21 (fun _ h9 => h9) rfl (by decide +kernel) rfl rfl (Nat.le_of_ble_eq_true rfl) dX0_add_48 (fun H locs hP _ hS => ?_)
    replace hP : va_P D vwCl [(qt, .inr (0, [.ref qt_column, .ref qt_kind, .ref qt_coins, .int n3])), (qt_column, .inl (cI, 8, .inl (upd ft_column (Int32.toNatClampNeg it_count) x1))), (qt_kind, .inl (cI, 8, .inl (upd ft_kind (Int32.toNatClampNeg it_count) x2))), (qt_coins, .inl (cI, 8, .inl (upd ft_coins (Int32.toNatClampNeg it_count) x3)))] H := hP
    refine lv_iconst (v := 1) hx hb dX0_add_51 (by decide) ?_
    simp only [Option.some.injEq, Prod.mk.injEq] at h
    obtain ⟨rfl, rfl, rfl, rfl, rfl⟩ := h
    exact hret _ _ _ _ hP hS rfl dX0_add_52
  · replace h := if_f c1 h
    refine lv_iconst (v := 0) hx hb dX0_add_9 (by decide) ?_
    simp only [Option.some.injEq, Prod.mk.injEq] at h
    obtain ⟨rfl, rfl, rfl, rfl, rfl⟩ := h
    exact hret _ _ _ _ hP hS rfl dX0_add_10
theorem hdX0_add : yX0_add.cls = RX0 ∧ yX0_add.cls ≠ "java/lang/invoke/MethodHandle" ∧ yX0_add.cls ≠ "java/lang/invoke/VarHandle" ∧ (parseMethodDescriptor yX0_add.desc).map (fun d => d.parameters.length) = some 3 := by decide +kernel
