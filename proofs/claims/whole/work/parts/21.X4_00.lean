noncomputable def fX4_isJammed (N : Nat) (ft_stick : Nat → Int32) (x1 : Int32) : Option (Int32) := ck x1 5 ((if (ft_stick (Int32.toNatClampNeg x1)) < 10 then some 0 else some 1))
set_option maxHeartbeats 4000000 in
set_option maxRecDepth 100000 in
theorem ctX4_isJammed (l : Launch) (D : va_G) (cI cZ cB cS : ClassId) (kK kV : Nat → Nat) (sz : Nat) (qt qt_tube qt_goods qt_stick qt_kicks qt_kickCount qt_low qt_high qt_price qt_wired : Nat) (it_lost : Int32) (it_stamps : Int32) (it_sales : Int32) (it_damp : Int32) (it_worn : Int32) (it_seed : Int32) (ft_stick : Nat → Int32) (x1 : Int32) (N : Nat) (r0 : Int32)  (h : fX4_isJammed N ft_stick x1 = some r0) : CtI l yX4_isJammed wsX4_isJammed { frames := 0, cells := 0, slots := 0, locals := 0 } D (TY cI cZ cB cS) kK kV [.ref qt, .int x1] [(qt, .inr (4, [.ref qt_tube, .ref qt_goods, .ref qt_stick, .ref qt_kicks, .ref qt_kickCount, .ref qt_low, .ref qt_high, .ref qt_price, .ref qt_wired, .int it_lost, .int it_stamps, .int it_sales, .int it_damp, .int it_worn, .int it_seed])), (qt_stick, .inl (cI, 5, .inl ft_stick))] [(qt, .inr (4, [.ref qt_tube, .ref qt_goods, .ref qt_stick, .ref qt_kicks, .ref qt_kickCount, .ref qt_low, .ref qt_high, .ref qt_price, .ref qt_wired, .int it_lost, .int it_stamps, .int it_sales, .int it_damp, .int it_worn, .int it_seed])), (qt_stick, .inl (cI, 5, .inl ft_stick))] sz r0 := by
  refine mkI (cc := cX4_isJammed) (maxL := 2) (rt := .boolean) (own := RX4) (by decide) rfl rfl (Nat.le_of_ble_eq_true rfl) ?_
  intro p e s m args below meth c A Z ls hx hb hml hown hts hK hN hX hP hD hA hS hret hl
  have hl : lv_has ls 2 [(0, .ref qt), (1, .int x1)] := hl
  have fl18 : (Cond.fieldLink RX4 18 "SoupWall$State" "stick" "[I").before args s = true := hts _ (List.mem_of_getElem? (l := wsX4_isJammed) (i := 1) rfl)
  have hiX4 : ∀ w ∈ wsX40, w ∈ wsX4_isJammed := fun w h => List.mem_cons_of_mem _ (List.mem_append_right _ h)
  unfold fX4_isJammed at h
  refine lv_aload_n hx hb dX4_isJammed_0 rfl (lv_at hl 0 rfl) ?_
  refine va_get (ci := 4) (v := .ref qt_stick) (C := RX4) (T := TX4) (N := 15) hx hb hts hiX4 hown hK hP 0 rfl rfl 2 (by decide) fl18 (fun _ h9 => h9) rfl dX4_isJammed_1 ?_
  refine lv_iload_n hx hb dX4_isJammed_4 rfl (lv_at hl 1 rfl) ?_
  replace h := ck_el h
  obtain ⟨hi1, h⟩ := h
  refine va_iald hx hb hK hP 1 0 rfl rfl hi1 dX4_isJammed_5 ?_
  refine lv_bipush (v := 10) hx hb dX4_isJammed_6 (by decide) ?_
  refine lv_icmp_lt (tgt := 15) hx hb dX4_isJammed_8 (by decide) (fun c2 => ?_) (fun c2 => ?_)
  · replace h := if_t c2 h
    refine lv_iconst (v := 0) hx hb dX4_isJammed_15 (by decide) ?_
    simp only [Option.some.injEq] at h
    subst h
    exact hret _ _ _ _ hP hS rfl dX4_isJammed_16
  · replace h := if_f c2 h
    refine lv_iconst (v := 1) hx hb dX4_isJammed_11 (by decide) ?_
    refine lv_goto (tgt := 16) hx hb dX4_isJammed_12 (by decide) ?_
    simp only [Option.some.injEq] at h
    subst h
    exact hret _ _ _ _ hP hS rfl dX4_isJammed_16
theorem hdX4_isJammed : yX4_isJammed.cls = RX4 ∧ yX4_isJammed.cls ≠ "java/lang/invoke/MethodHandle" ∧ yX4_isJammed.cls ≠ "java/lang/invoke/VarHandle" ∧ (parseMethodDescriptor yX4_isJammed.desc).map (fun d => d.parameters.length) = some 1 := by decide +kernel

noncomputable def fX4_takeIn (N : Nat) (it_lost : Int32) (ft_tube : Nat → Int32) (x1 : Int32) (x2 : Int32) : Option (Int32 × (Nat → Int32)) := ck x1 5 (lt ((if 0 < (((ft_tube (Int32.toNatClampNeg x1)) + x2) - 60) then (((ft_tube (Int32.toNatClampNeg x1)) + x2) - 60) else 0)) fun n2 => lt ((ft_tube (Int32.toNatClampNeg x1)) + (x2 - n2)) fun n3 => lt ((if (it_lost + n2) < 999999999 then (it_lost + n2) else 999999999)) fun n4 => some (n4, upd ft_tube (Int32.toNatClampNeg x1) n3))
set_option maxHeartbeats 4000000 in
set_option maxRecDepth 100000 in
theorem ctX4_takeIn (l : Launch) (D : va_G) (cI cZ cB cS : ClassId) (kK kV : Nat → Nat) (sz : Nat) (qt qt_tube qt_goods qt_stick qt_kicks qt_kickCount qt_low qt_high qt_price qt_wired : Nat) (it_lost : Int32) (it_stamps : Int32) (it_sales : Int32) (it_damp : Int32) (it_worn : Int32) (it_seed : Int32) (ft_tube : Nat → Int32) (x1 : Int32) (x2 : Int32) (N : Nat) (w_it_lost : Int32) (w_ft_tube : Nat → Int32) (h : fX4_takeIn N it_lost ft_tube x1 x2 = some (w_it_lost, w_ft_tube)) : CtV l yX4_takeIn wsX4_takeIn { frames := 1, cells := 0, slots := 0, locals := 21 } D (TY cI cZ cB cS) kK kV [.ref qt, .int x1, .int x2] [(qt, .inr (4, [.ref qt_tube, .ref qt_goods, .ref qt_stick, .ref qt_kicks, .ref qt_kickCount, .ref qt_low, .ref qt_high, .ref qt_price, .ref qt_wired, .int it_lost, .int it_stamps, .int it_sales, .int it_damp, .int it_worn, .int it_seed])), (qt_tube, .inl (cI, 5, .inl ft_tube))] [(qt, .inr (4, [.ref qt_tube, .ref qt_goods, .ref qt_stick, .ref qt_kicks, .ref qt_kickCount, .ref qt_low, .ref qt_high, .ref qt_price, .ref qt_wired, .int w_it_lost, .int it_stamps, .int it_sales, .int it_damp, .int it_worn, .int it_seed])), (qt_tube, .inl (cI, 5, .inl w_ft_tube))] sz := by
  refine mkV (cc := cX4_takeIn) (maxL := 4) (own := RX4) (by decide) rfl rfl (Nat.le_of_ble_eq_true rfl) ?_
  intro p e s m args below meth c A Z ls hx hb hml hown hts hK hN hX hP hD hA hS hret hl
  have hl : lv_has ls 4 [(0, .ref qt), (1, .int x1), (2, .int x2)] := hl
  have fl9 : (Cond.fieldLink RX4 9 "SoupWall$State" "tube" "[I").before args s = true := hts _ (List.mem_of_getElem? (l := wsX4_takeIn) (i := 1) rfl)
  have hiX4 : ∀ w ∈ wsX40, w ∈ wsX4_takeIn := fun w h => List.mem_cons_of_mem _ (List.mem_append_right _ h)
  have ml72 : (Cond.methodLink RX4 72 Lib.Math.max.name).before args s = true := hts _ (List.mem_of_getElem? (l := wsX4_takeIn) (i := 2) rfl)
  have msmax : (Cond.static Lib.Math.max.name).before args s = true := hts _ (List.mem_of_getElem? (l := wsX4_takeIn) (i := 3) rfl)
  have mi : (Cond.initialized "java/lang/Math").before args s = true := hts _ (List.mem_of_getElem? (l := wsX4_takeIn) (i := 4) rfl)
  have mcmax : (Cond.code Lib.Math.max.name Lib.Math.max.code 2 (some .int)).before args s = true := hts _ (List.mem_of_getElem? (l := wsX4_takeIn) (i := 5) rfl)
  have cn75 : (Cond.constant RX4 75 (999999999)).before args s = true := hts _ (List.mem_of_getElem? (l := wsX4_takeIn) (i := 6) rfl)
  have fl43 : (Cond.fieldLink RX4 43 "SoupWall$State" "lost" "I").before args s = true := hts _ (List.mem_of_getElem? (l := wsX4_takeIn) (i := 7) rfl)
  have ml66 : (Cond.methodLink RX4 66 Lib.Math.min.name).before args s = true := hts _ (List.mem_of_getElem? (l := wsX4_takeIn) (i := 8) rfl)
  have msmin : (Cond.static Lib.Math.min.name).before args s = true := hts _ (List.mem_of_getElem? (l := wsX4_takeIn) (i := 9) rfl)
  have mcmin : (Cond.code Lib.Math.min.name Lib.Math.min.code 2 (some .int)).before args s = true := hts _ (List.mem_of_getElem? (l := wsX4_takeIn) (i := 10) rfl)
  unfold fX4_takeIn at h
  refine lv_iconst (v := 0) hx hb dX4_takeIn_0 (by decide) ?_
  refine lv_aload_n hx hb dX4_takeIn_1 rfl (lv_at hl 0 rfl) ?_
  refine va_get (ci := 4) (v := .ref qt_tube) (C := RX4) (T := TX4) (N := 15) hx hb hts hiX4 hown hK hP 0 rfl rfl 0 (by decide) fl9 (fun _ h9 => h9) rfl dX4_takeIn_2 ?_
  refine lv_iload_n hx hb dX4_takeIn_5 rfl (lv_at hl 1 rfl) ?_
  replace h := ck_el h
  obtain ⟨hi1, h⟩ := h
  refine va_iald hx hb hK hP 1 0 rfl rfl hi1 dX4_takeIn_6 ?_
  refine lv_iload_n hx hb dX4_takeIn_7 rfl (lv_at hl 2 rfl) ?_
  refine lv_iadd hx hb dX4_takeIn_8 ?_
  refine lv_bipush (v := 60) hx hb dX4_takeIn_9 (by decide) ?_
  refine lv_isub hx hb dX4_takeIn_11 ?_
  refine va_mmax hx hb (hml.trans hl.1.symm) hown ml72 msmax mi mcmax (Nat.le_of_ble_eq_true rfl) (Nat.le_of_ble_eq_true rfl) (Nat.zero_le _) (Nat.zero_le _) dX4_takeIn_12 ?_
  refine lv_topi (fun n2 en2 => ?_)
  replace h := lt_at en2 h
  refine lv_istore_n (lv' := [(3, .int n2), (0, .ref qt), (1, .int x1), (2, .int x2)]) hx hb dX4_takeIn_15 rfl hl (by decide) rfl (fun ls hl => ?_)
  refine lv_aload_n hx hb dX4_takeIn_16 rfl (lv_at hl 1 rfl) ?_
  refine va_get (ci := 4) (v := .ref qt_tube) (C := RX4) (T := TX4) (N := 15) hx hb hts hiX4 hown hK hP 0 rfl rfl 0 (by decide) fl9 (fun _ h9 => h9) rfl dX4_takeIn_17 ?_
  refine lv_iload_n hx hb dX4_takeIn_20 rfl (lv_at hl 2 rfl) ?_
  refine lv_dup2_11 hx hb dX4_takeIn_21 rfl rfl ?_
  refine va_iald hx hb hK hP 1 0 rfl rfl hi1 dX4_takeIn_22 ?_
  refine lv_iload_n hx hb dX4_takeIn_23 rfl (lv_at hl 3 rfl) ?_
  refine lv_iload_n hx hb dX4_takeIn_24 rfl (lv_at hl 0 rfl) ?_
  refine lv_isub hx hb dX4_takeIn_25 ?_
  refine lv_iadd hx hb dX4_takeIn_26 ?_
  refine lv_topi (fun n3 en3 => ?_)
  replace h := lt_at en3 h
  refine va_iast hx hb hK hP (dF hD rfl) hS 1 0 rfl rfl hi1 dX4_takeIn_27 (fun H locs hP _ hS => ?_)
  replace hP : va_P D vwCl [(qt, .inr (4, [.ref qt_tube, .ref qt_goods, .ref qt_stick, .ref qt_kicks, .ref qt_kickCount, .ref qt_low, .ref qt_high, .ref qt_price, .ref qt_wired, .int it_lost, .int it_stamps, .int it_sales, .int it_damp, .int it_worn, .int it_seed])), (qt_tube, .inl (cI, 5, .inl (upd ft_tube (Int32.toNatClampNeg x1) n3)))] H := hP
  refine lv_aload_n hx hb dX4_takeIn_28 rfl (lv_at hl 1 rfl) ?_
  refine lv_ldc (v := 999999999) hx hb hown cn75 dX4_takeIn_29 ?_
  refine lv_aload_n hx hb dX4_takeIn_31 rfl (lv_at hl 1 rfl) ?_
  refine va_get (ci := 4) (v := .int it_lost) (C := RX4) (T := TX4) (N := 15) hx hb hts hiX4 hown hK hP 0 rfl rfl 9 (by decide) fl43 (fun _ h9 => h9) rfl dX4_takeIn_32 ?_
  refine lv_iload_n hx hb dX4_takeIn_35 rfl (lv_at hl 0 rfl) ?_
  refine lv_iadd hx hb dX4_takeIn_36 ?_
  refine va_mmin hx hb (hml.trans hl.1.symm) hown ml66 msmin mi mcmin (Nat.le_of_ble_eq_true rfl) (Nat.le_of_ble_eq_true rfl) (Nat.zero_le _) (Nat.zero_le _) dX4_takeIn_37 ?_
  refine lv_topi (fun n4 en4 => ?_)
  replace h := lt_at en4 h
  refine va_put (ci := 4) (v := .int n4) (ty := .int) (C := RX4) (T := TX4) (N := 15) hx hb hts hiX4 tyX4 tyX4_ok nmX4 hown hK hP (dF hD rfl) hS 0 rfl rfl 9 (by decide) fl43 (fun _ h9 => h9) rfl (by decide +kernel) rfl rfl (Nat.le_of_ble_eq_true rfl) dX4_takeIn_40 (fun H locs hP _ hS => ?_)
  replace hP : va_P D vwCl [(qt, .inr (4, [.ref qt_tube, .ref qt_goods, .ref qt_stick, .ref qt_kicks, .ref qt_kickCount, .ref qt_low, .ref qt_high, .ref qt_price, .ref qt_wired, .int n4, .int it_stamps, .int it_sales, .int it_damp, .int it_worn, .int it_seed])), (qt_tube, .inl (cI, 5, .inl (upd ft_tube (Int32.toNatClampNeg x1) n3)))] H := hP
  simp only [Option.some.injEq, Prod.mk.injEq] at h
  obtain ⟨rfl, rfl⟩ := h
  exact hret _ _ _ _ hP hS dX4_takeIn_43
theorem hdX4_takeIn : yX4_takeIn.cls = RX4 ∧ yX4_takeIn.cls ≠ "java/lang/invoke/MethodHandle" ∧ yX4_takeIn.cls ≠ "java/lang/invoke/VarHandle" ∧ (parseMethodDescriptor yX4_takeIn.desc).map (fun d => d.parameters.length) = some 2 := by decide +kernel

noncomputable def fX4_setFree (N : Nat) (ft_stick : Nat → Int32) (ft_kicks : Nat → Int32) (ft_kickCount : Nat → Int32) (x1 : Int32) : Option ((Nat → Int32) × (Nat → Int32) × (Nat → Int32)) := ck x1 5 (some (upd ft_stick (Int32.toNatClampNeg x1) 0, upd ft_kicks (Int32.toNatClampNeg x1) 0, upd ft_kickCount (Int32.toNatClampNeg x1) 0))
set_option maxHeartbeats 4000000 in
set_option maxRecDepth 100000 in
theorem ctX4_setFree (l : Launch) (D : va_G) (cI cZ cB cS : ClassId) (kK kV : Nat → Nat) (sz : Nat) (qt qt_tube qt_goods qt_stick qt_kicks qt_kickCount qt_low qt_high qt_price qt_wired : Nat) (it_lost : Int32) (it_stamps : Int32) (it_sales : Int32) (it_damp : Int32) (it_worn : Int32) (it_seed : Int32) (ft_stick : Nat → Int32) (ft_kicks : Nat → Int32) (ft_kickCount : Nat → Int32) (x1 : Int32) (N : Nat) (w_ft_stick : Nat → Int32) (w_ft_kicks : Nat → Int32) (w_ft_kickCount : Nat → Int32) (h : fX4_setFree N ft_stick ft_kicks ft_kickCount x1 = some (w_ft_stick, w_ft_kicks, w_ft_kickCount)) : CtV l yX4_setFree wsX4_setFree { frames := 0, cells := 0, slots := 0, locals := 0 } D (TY cI cZ cB cS) kK kV [.ref qt, .int x1] [(qt, .inr (4, [.ref qt_tube, .ref qt_goods, .ref qt_stick, .ref qt_kicks, .ref qt_kickCount, .ref qt_low, .ref qt_high, .ref qt_price, .ref qt_wired, .int it_lost, .int it_stamps, .int it_sales, .int it_damp, .int it_worn, .int it_seed])), (qt_stick, .inl (cI, 5, .inl ft_stick)), (qt_kicks, .inl (cI, 5, .inl ft_kicks)), (qt_kickCount, .inl (cI, 5, .inl ft_kickCount))] [(qt, .inr (4, [.ref qt_tube, .ref qt_goods, .ref qt_stick, .ref qt_kicks, .ref qt_kickCount, .ref qt_low, .ref qt_high, .ref qt_price, .ref qt_wired, .int it_lost, .int it_stamps, .int it_sales, .int it_damp, .int it_worn, .int it_seed])), (qt_stick, .inl (cI, 5, .inl w_ft_stick)), (qt_kicks, .inl (cI, 5, .inl w_ft_kicks)), (qt_kickCount, .inl (cI, 5, .inl w_ft_kickCount))] sz := by
  refine mkV (cc := cX4_setFree) (maxL := 2) (own := RX4) (by decide) rfl rfl (Nat.le_of_ble_eq_true rfl) ?_
  intro p e s m args below meth c A Z ls hx hb hml hown hts hK hN hX hP hD hA hS hret hl
  have hl : lv_has ls 2 [(0, .ref qt), (1, .int x1)] := hl
  have fl18 : (Cond.fieldLink RX4 18 "SoupWall$State" "stick" "[I").before args s = true := hts _ (List.mem_of_getElem? (l := wsX4_setFree) (i := 1) rfl)
  have hiX4 : ∀ w ∈ wsX40, w ∈ wsX4_setFree := fun w h => List.mem_cons_of_mem _ (List.mem_append_right _ h)
  have fl21 : (Cond.fieldLink RX4 21 "SoupWall$State" "kicks" "[I").before args s = true := hts _ (List.mem_of_getElem? (l := wsX4_setFree) (i := 2) rfl)
  have fl24 : (Cond.fieldLink RX4 24 "SoupWall$State" "kickCount" "[I").before args s = true := hts _ (List.mem_of_getElem? (l := wsX4_setFree) (i := 3) rfl)
  unfold fX4_setFree at h
  refine lv_aload_n hx hb dX4_setFree_0 rfl (lv_at hl 0 rfl) ?_
  refine va_get (ci := 4) (v := .ref qt_stick) (C := RX4) (T := TX4) (N := 15) hx hb hts hiX4 hown hK hP 0 rfl rfl 2 (by decide) fl18 (fun _ h9 => h9) rfl dX4_setFree_1 ?_
  refine lv_iload_n hx hb dX4_setFree_4 rfl (lv_at hl 1 rfl) ?_
  refine lv_iconst (v := 0) hx hb dX4_setFree_5 (by decide) ?_
  replace h := ck_el h
  obtain ⟨hi1, h⟩ := h
  refine va_iast hx hb hK hP (dF hD rfl) hS 1 0 rfl rfl hi1 dX4_setFree_6 (fun H locs hP _ hS => ?_)
  replace hP : va_P D vwCl [(qt, .inr (4, [.ref qt_tube, .ref qt_goods, .ref qt_stick, .ref qt_kicks, .ref qt_kickCount, .ref qt_low, .ref qt_high, .ref qt_price, .ref qt_wired, .int it_lost, .int it_stamps, .int it_sales, .int it_damp, .int it_worn, .int it_seed])), (qt_stick, .inl (cI, 5, .inl (upd ft_stick (Int32.toNatClampNeg x1) 0))), (qt_kicks, .inl (cI, 5, .inl ft_kicks)), (qt_kickCount, .inl (cI, 5, .inl ft_kickCount))] H := hP
  refine lv_aload_n hx hb dX4_setFree_7 rfl (lv_at hl 0 rfl) ?_
  refine va_get (ci := 4) (v := .ref qt_kicks) (C := RX4) (T := TX4) (N := 15) hx hb hts hiX4 hown hK hP 0 rfl rfl 3 (by decide) fl21 (fun _ h9 => h9) rfl dX4_setFree_8 ?_
  refine lv_iload_n hx hb dX4_setFree_11 rfl (lv_at hl 1 rfl) ?_
  refine lv_iconst (v := 0) hx hb dX4_setFree_12 (by decide) ?_
  refine va_iast hx hb hK hP (dF hD rfl) hS 2 0 rfl rfl hi1 dX4_setFree_13 (fun H locs hP _ hS => ?_)
  replace hP : va_P D vwCl [(qt, .inr (4, [.ref qt_tube, .ref qt_goods, .ref qt_stick, .ref qt_kicks, .ref qt_kickCount, .ref qt_low, .ref qt_high, .ref qt_price, .ref qt_wired, .int it_lost, .int it_stamps, .int it_sales, .int it_damp, .int it_worn, .int it_seed])), (qt_stick, .inl (cI, 5, .inl (upd ft_stick (Int32.toNatClampNeg x1) 0))), (qt_kicks, .inl (cI, 5, .inl (upd ft_kicks (Int32.toNatClampNeg x1) 0))), (qt_kickCount, .inl (cI, 5, .inl ft_kickCount))] H := hP
  refine lv_aload_n hx hb dX4_setFree_14 rfl (lv_at hl 0 rfl) ?_
  refine va_get (ci := 4) (v := .ref qt_kickCount) (C := RX4) (T := TX4) (N := 15) hx hb hts hiX4 hown hK hP 0 rfl rfl 4 (by decide) fl24 (fun _ h9 => h9) rfl dX4_setFree_15 ?_
  refine lv_iload_n hx hb dX4_setFree_18 rfl (lv_at hl 1 rfl) ?_
  refine lv_iconst (v := 0) hx hb dX4_setFree_19 (by decide) ?_
  refine va_iast hx hb hK hP (dF hD rfl) hS 3 0 rfl rfl hi1 dX4_setFree_20 (fun H locs hP _ hS => ?_)
  replace hP : va_P D vwCl [(qt, .inr (4, [.ref qt_tube, .ref qt_goods, .ref qt_stick, .ref qt_kicks, .ref qt_kickCount, .ref qt_low, .ref qt_high, .ref qt_price, .ref qt_wired, .int it_lost, .int it_stamps, .int it_sales, .int it_damp, .int it_worn, .int it_seed])), (qt_stick, .inl (cI, 5, .inl (upd ft_stick (Int32.toNatClampNeg x1) 0))), (qt_kicks, .inl (cI, 5, .inl (upd ft_kicks (Int32.toNatClampNeg x1) 0))), (qt_kickCount, .inl (cI, 5, .inl (upd ft_kickCount (Int32.toNatClampNeg x1) 0)))] H := hP
  simp only [Option.some.injEq, Prod.mk.injEq] at h
  obtain ⟨rfl, rfl, rfl⟩ := h
  exact hret _ _ _ _ hP hS dX4_setFree_21
theorem hdX4_setFree : yX4_setFree.cls = RX4 ∧ yX4_setFree.cls ≠ "java/lang/invoke/MethodHandle" ∧ yX4_setFree.cls ≠ "java/lang/invoke/VarHandle" ∧ (parseMethodDescriptor yX4_setFree.desc).map (fun d => d.parameters.length) = some 1 := by decide +kernel

noncomputable def fX4_setColumn (N : Nat) (ft_price : Nat → Int32) (ft_low : Nat → Int32) (ft_high : Nat → Int32) (ft_goods : Nat → Int32) (ft_wired : Nat → Int32) (ft_stick : Nat → Int32) (ft_kicks : Nat → Int32) (ft_kickCount : Nat → Int32) (x1 : Int32) (x2 : Int32) (x3 : Int32) (x4 : Int32) (x5 : Int32) : Option ((Nat → Int32) × (Nat → Int32) × (Nat → Int32) × (Nat → Int32) × (Nat → Int32) × (Nat → Int32) × (Nat → Int32) × (Nat → Int32)) := (if x1 < 0 then some (ft_price, ft_low, ft_high, ft_goods, ft_wired, ft_stick, ft_kicks, ft_kickCount) else (if x1 < 5 then ck x1 5 (bd (fX4_setFree N ft_stick ft_kicks ft_kickCount x1) fun (g4, g5, g6) => some (upd ft_price (Int32.toNatClampNeg x1) x2, upd ft_low (Int32.toNatClampNeg x1) x3, upd ft_high (Int32.toNatClampNeg x1) x4, upd ft_goods (Int32.toNatClampNeg x1) x5, upd ft_wired (Int32.toNatClampNeg x1) x1, g4, g5, g6)) else some (ft_price, ft_low, ft_high, ft_goods, ft_wired, ft_stick, ft_kicks, ft_kickCount)))
set_option maxHeartbeats 4000000 in
set_option maxRecDepth 100000 in
theorem ctX4_setColumn (l : Launch) (D : va_G) (cI cZ cB cS : ClassId) (kK kV : Nat → Nat) (sz : Nat) (qt qt_tube qt_goods qt_stick qt_kicks qt_kickCount qt_low qt_high qt_price qt_wired : Nat) (it_lost : Int32) (it_stamps : Int32) (it_sales : Int32) (it_damp : Int32) (it_worn : Int32) (it_seed : Int32) (ft_price : Nat → Int32) (ft_low : Nat → Int32) (ft_high : Nat → Int32) (ft_goods : Nat → Int32) (ft_wired : Nat → Int32) (ft_stick : Nat → Int32) (ft_kicks : Nat → Int32) (ft_kickCount : Nat → Int32) (x1 : Int32) (x2 : Int32) (x3 : Int32) (x4 : Int32) (x5 : Int32) (N : Nat) (w_ft_price : Nat → Int32) (w_ft_low : Nat → Int32) (w_ft_high : Nat → Int32) (w_ft_goods : Nat → Int32) (w_ft_wired : Nat → Int32) (w_ft_stick : Nat → Int32) (w_ft_kicks : Nat → Int32) (w_ft_kickCount : Nat → Int32) (h : fX4_setColumn N ft_price ft_low ft_high ft_goods ft_wired ft_stick ft_kicks ft_kickCount x1 x2 x3 x4 x5 = some (w_ft_price, w_ft_low, w_ft_high, w_ft_goods, w_ft_wired, w_ft_stick, w_ft_kicks, w_ft_kickCount)) : CtV l yX4_setColumn wsX4_setColumn { frames := 1, cells := 0, slots := 0, locals := 21 } D (TY cI cZ cB cS) kK kV [.ref qt, .int x1, .int x2, .int x3, .int x4, .int x5] [(qt, .inr (4, [.ref qt_tube, .ref qt_goods, .ref qt_stick, .ref qt_kicks, .ref qt_kickCount, .ref qt_low, .ref qt_high, .ref qt_price, .ref qt_wired, .int it_lost, .int it_stamps, .int it_sales, .int it_damp, .int it_worn, .int it_seed])), (qt_price, .inl (cI, 5, .inl ft_price)), (qt_low, .inl (cI, 5, .inl ft_low)), (qt_high, .inl (cI, 5, .inl ft_high)), (qt_goods, .inl (cI, 5, .inl ft_goods)), (qt_wired, .inl (cI, 5, .inl ft_wired)), (qt_stick, .inl (cI, 5, .inl ft_stick)), (qt_kicks, .inl (cI, 5, .inl ft_kicks)), (qt_kickCount, .inl (cI, 5, .inl ft_kickCount))] [(qt, .inr (4, [.ref qt_tube, .ref qt_goods, .ref qt_stick, .ref qt_kicks, .ref qt_kickCount, .ref qt_low, .ref qt_high, .ref qt_price, .ref qt_wired, .int it_lost, .int it_stamps, .int it_sales, .int it_damp, .int it_worn, .int it_seed])), (qt_price, .inl (cI, 5, .inl w_ft_price)), (qt_low, .inl (cI, 5, .inl w_ft_low)), (qt_high, .inl (cI, 5, .inl w_ft_high)), (qt_goods, .inl (cI, 5, .inl w_ft_goods)), (qt_wired, .inl (cI, 5, .inl w_ft_wired)), (qt_stick, .inl (cI, 5, .inl w_ft_stick)), (qt_kicks, .inl (cI, 5, .inl w_ft_kicks)), (qt_kickCount, .inl (cI, 5, .inl w_ft_kickCount))] sz := by
  refine mkV (cc := cX4_setColumn) (maxL := 6) (own := RX4) (by decide) rfl rfl (Nat.le_of_ble_eq_true rfl) ?_
  intro p e s m args below meth c A Z ls hx hb hml hown hts hK hN hX hP hD hA hS hret hl
  have hl : lv_has ls 6 [(0, .ref qt), (1, .int x1), (2, .int x2), (3, .int x3), (4, .int x4), (5, .int x5)] := hl
  have fl33 : (Cond.fieldLink RX4 33 "SoupWall$State" "price" "[I").before args s = true := hts _ (List.mem_of_getElem? (l := wsX4_setColumn) (i := 1) rfl)
  have hiX4 : ∀ w ∈ wsX40, w ∈ wsX4_setColumn := fun w h => List.mem_cons_of_mem _ (List.mem_append_right _ h)
  have fl27 : (Cond.fieldLink RX4 27 "SoupWall$State" "low" "[I").before args s = true := hts _ (List.mem_of_getElem? (l := wsX4_setColumn) (i := 2) rfl)
  have fl30 : (Cond.fieldLink RX4 30 "SoupWall$State" "high" "[I").before args s = true := hts _ (List.mem_of_getElem? (l := wsX4_setColumn) (i := 3) rfl)
  have fl15 : (Cond.fieldLink RX4 15 "SoupWall$State" "goods" "[I").before args s = true := hts _ (List.mem_of_getElem? (l := wsX4_setColumn) (i := 4) rfl)
  have fl36 : (Cond.fieldLink RX4 36 "SoupWall$State" "wired" "[I").before args s = true := hts _ (List.mem_of_getElem? (l := wsX4_setColumn) (i := 5) rfl)
  unfold fX4_setColumn at h
  refine lv_iload_n hx hb dX4_setColumn_0 rfl (lv_at hl 1 rfl) ?_
  refine lv_if_lt (tgt := 9) hx hb dX4_setColumn_1 (by decide) (fun c1 => ?_) (fun c1 => ?_)
  · replace h := if_t c1 h
    simp only [Option.some.injEq, Prod.mk.injEq] at h
    obtain ⟨rfl, rfl, rfl, rfl, rfl, rfl, rfl, rfl⟩ := h
    exact hret _ _ _ _ hP hS dX4_setColumn_9
  · replace h := if_f c1 h
    refine lv_iload_n hx hb dX4_setColumn_4 rfl (lv_at hl 1 rfl) ?_
    refine lv_iconst (v := 5) hx hb dX4_setColumn_5 (by decide) ?_
    refine lv_icmp_lt (tgt := 10) hx hb dX4_setColumn_6 (by decide) (fun c2 => ?_) (fun c2 => ?_)
    · replace h := if_t c2 h
      refine lv_aload_n hx hb dX4_setColumn_10 rfl (lv_at hl 0 rfl) ?_
      refine va_get (ci := 4) (v := .ref qt_price) (C := RX4) (T := TX4) (N := 15) hx hb hts hiX4 hown hK hP 0 rfl rfl 7 (by decide) fl33 (fun _ h9 => h9) rfl dX4_setColumn_11 ?_
      refine lv_iload_n hx hb dX4_setColumn_14 rfl (lv_at hl 1 rfl) ?_
      refine lv_iload_n hx hb dX4_setColumn_15 rfl (lv_at hl 2 rfl) ?_
      replace h := ck_el h
      obtain ⟨hi3, h⟩ := h
      refine va_iast hx hb hK hP (dF hD rfl) hS 1 0 rfl rfl hi3 dX4_setColumn_16 (fun H locs hP _ hS => ?_)
      replace hP : va_P D vwCl [(qt, .inr (4, [.ref qt_tube, .ref qt_goods, .ref qt_stick, .ref qt_kicks, .ref qt_kickCount, .ref qt_low, .ref qt_high, .ref qt_price, .ref qt_wired, .int it_lost, .int it_stamps, .int it_sales, .int it_damp, .int it_worn, .int it_seed])), (qt_price, .inl (cI, 5, .inl (upd ft_price (Int32.toNatClampNeg x1) x2))), (qt_low, .inl (cI, 5, .inl ft_low)), (qt_high, .inl (cI, 5, .inl ft_high)), (qt_goods, .inl (cI, 5, .inl ft_goods)), (qt_wired, .inl (cI, 5, .inl ft_wired)), (qt_stick, .inl (cI, 5, .inl ft_stick)), (qt_kicks, .inl (cI, 5, .inl ft_kicks)), (qt_kickCount, .inl (cI, 5, .inl ft_kickCount))] H := hP
      refine lv_aload_n hx hb dX4_setColumn_17 rfl (lv_at hl 0 rfl) ?_
      refine va_get (ci := 4) (v := .ref qt_low) (C := RX4) (T := TX4) (N := 15) hx hb hts hiX4 hown hK hP 0 rfl rfl 5 (by decide) fl27 (fun _ h9 => h9) rfl dX4_setColumn_18 ?_
      refine lv_iload_n hx hb dX4_setColumn_21 rfl (lv_at hl 1 rfl) ?_
      refine lv_iload_n hx hb dX4_setColumn_22 rfl (lv_at hl 3 rfl) ?_
      refine va_iast hx hb hK hP (dF hD rfl) hS 2 0 rfl rfl hi3 dX4_setColumn_23 (fun H locs hP _ hS => ?_)
      replace hP : va_P D vwCl [(qt, .inr (4, [.ref qt_tube, .ref qt_goods, .ref qt_stick, .ref qt_kicks, .ref qt_kickCount, .ref qt_low, .ref qt_high, .ref qt_price, .ref qt_wired, .int it_lost, .int it_stamps, .int it_sales, .int it_damp, .int it_worn, .int it_seed])), (qt_price, .inl (cI, 5, .inl (upd ft_price (Int32.toNatClampNeg x1) x2))), (qt_low, .inl (cI, 5, .inl (upd ft_low (Int32.toNatClampNeg x1) x3))), (qt_high, .inl (cI, 5, .inl ft_high)), (qt_goods, .inl (cI, 5, .inl ft_goods)), (qt_wired, .inl (cI, 5, .inl ft_wired)), (qt_stick, .inl (cI, 5, .inl ft_stick)), (qt_kicks, .inl (cI, 5, .inl ft_kicks)), (qt_kickCount, .inl (cI, 5, .inl ft_kickCount))] H := hP
      refine lv_aload_n hx hb dX4_setColumn_24 rfl (lv_at hl 0 rfl) ?_
      refine va_get (ci := 4) (v := .ref qt_high) (C := RX4) (T := TX4) (N := 15) hx hb hts hiX4 hown hK hP 0 rfl rfl 6 (by decide) fl30 (fun _ h9 => h9) rfl dX4_setColumn_25 ?_
      refine lv_iload_n hx hb dX4_setColumn_28 rfl (lv_at hl 1 rfl) ?_
      refine lv_iload hx hb dX4_setColumn_29 (lv_at hl 4 rfl) ?_
      refine va_iast hx hb hK hP (dF hD rfl) hS 3 0 rfl rfl hi3 dX4_setColumn_31 (fun H locs hP _ hS => ?_)
      replace hP : va_P D vwCl [(qt, .inr (4, [.ref qt_tube, .ref qt_goods, .ref qt_stick, .ref qt_kicks, .ref qt_kickCount, .ref qt_low, .ref qt_high, .ref qt_price, .ref qt_wired, .int it_lost, .int it_stamps, .int it_sales, .int it_damp, .int it_worn, .int it_seed])), (qt_price, .inl (cI, 5, .inl (upd ft_price (Int32.toNatClampNeg x1) x2))), (qt_low, .inl (cI, 5, .inl (upd ft_low (Int32.toNatClampNeg x1) x3))), (qt_high, .inl (cI, 5, .inl (upd ft_high (Int32.toNatClampNeg x1) x4))), (qt_goods, .inl (cI, 5, .inl ft_goods)), (qt_wired, .inl (cI, 5, .inl ft_wired)), (qt_stick, .inl (cI, 5, .inl ft_stick)), (qt_kicks, .inl (cI, 5, .inl ft_kicks)), (qt_kickCount, .inl (cI, 5, .inl ft_kickCount))] H := hP
      refine lv_aload_n hx hb dX4_setColumn_32 rfl (lv_at hl 0 rfl) ?_
      refine va_get (ci := 4) (v := .ref qt_goods) (C := RX4) (T := TX4) (N := 15) hx hb hts hiX4 hown hK hP 0 rfl rfl 1 (by decide) fl15 (fun _ h9 => h9) rfl dX4_setColumn_33 ?_
      refine lv_iload_n hx hb dX4_setColumn_36 rfl (lv_at hl 1 rfl) ?_
      refine lv_iload hx hb dX4_setColumn_37 (lv_at hl 5 rfl) ?_
      refine va_iast hx hb hK hP (dF hD rfl) hS 4 0 rfl rfl hi3 dX4_setColumn_39 (fun H locs hP _ hS => ?_)
      replace hP : va_P D vwCl [(qt, .inr (4, [.ref qt_tube, .ref qt_goods, .ref qt_stick, .ref qt_kicks, .ref qt_kickCount, .ref qt_low, .ref qt_high, .ref qt_price, .ref qt_wired, .int it_lost, .int it_stamps, .int it_sales, .int it_damp, .int it_worn, .int it_seed])), (qt_price, .inl (cI, 5, .inl (upd ft_price (Int32.toNatClampNeg x1) x2))), (qt_low, .inl (cI, 5, .inl (upd ft_low (Int32.toNatClampNeg x1) x3))), (qt_high, .inl (cI, 5, .inl (upd ft_high (Int32.toNatClampNeg x1) x4))), (qt_goods, .inl (cI, 5, .inl (upd ft_goods (Int32.toNatClampNeg x1) x5))), (qt_wired, .inl (cI, 5, .inl ft_wired)), (qt_stick, .inl (cI, 5, .inl ft_stick)), (qt_kicks, .inl (cI, 5, .inl ft_kicks)), (qt_kickCount, .inl (cI, 5, .inl ft_kickCount))] H := hP
      refine lv_aload_n hx hb dX4_setColumn_40 rfl (lv_at hl 0 rfl) ?_
      refine va_get (ci := 4) (v := .ref qt_wired) (C := RX4) (T := TX4) (N := 15) hx hb hts hiX4 hown hK hP 0 rfl rfl 8 (by decide) fl36 (fun _ h9 => h9) rfl dX4_setColumn_41 ?_
      refine lv_iload_n hx hb dX4_setColumn_44 rfl (lv_at hl 1 rfl) ?_
      refine lv_iload_n hx hb dX4_setColumn_45 rfl (lv_at hl 1 rfl) ?_
      refine va_iast hx hb hK hP (dF hD rfl) hS 5 0 rfl rfl hi3 dX4_setColumn_46 (fun H locs hP _ hS => ?_)
      replace hP : va_P D vwCl [(qt, .inr (4, [.ref qt_tube, .ref qt_goods, .ref qt_stick, .ref qt_kicks, .ref qt_kickCount, .ref qt_low, .ref qt_high, .ref qt_price, .ref qt_wired, .int it_lost, .int it_stamps, .int it_sales, .int it_damp, .int it_worn, .int it_seed])), (qt_price, .inl (cI, 5, .inl (upd ft_price (Int32.toNatClampNeg x1) x2))), (qt_low, .inl (cI, 5, .inl (upd ft_low (Int32.toNatClampNeg x1) x3))), (qt_high, .inl (cI, 5, .inl (upd ft_high (Int32.toNatClampNeg x1) x4))), (qt_goods, .inl (cI, 5, .inl (upd ft_goods (Int32.toNatClampNeg x1) x5))), (qt_wired, .inl (cI, 5, .inl (upd ft_wired (Int32.toNatClampNeg x1) x1))), (qt_stick, .inl (cI, 5, .inl ft_stick)), (qt_kicks, .inl (cI, 5, .inl ft_kicks)), (qt_kickCount, .inl (cI, 5, .inl ft_kickCount))] H := hP
      refine lv_aload_n hx hb dX4_setColumn_47 rfl (lv_at hl 0 rfl) ?_
      refine lv_iload_n hx hb dX4_setColumn_48 rfl (lv_at hl 1 rfl) ?_
      replace h := bd_el h
      obtain ⟨⟨g4, g5, g6⟩, hc7, h⟩ := h
      refine callVV (rest := []) ⟨hx, hb, hml, hown, hts⟩ (ctX4_setFree l D cI cZ cB cS kK kV _ qt qt_tube qt_goods qt_stick qt_kicks qt_kickCount qt_low qt_high qt_price qt_wired it_lost it_stamps it_sales it_damp it_worn it_seed ft_stick ft_kicks ft_kickCount x1 N g4 g5 g6 hc7) (cwV 1 hts gX4_setColumn_X4_setFree rfl rfl rfl hdX4_setFree ⟨Nat.le_of_ble_eq_true rfl, Nat.le_of_ble_eq_true rfl⟩) hK hN hX hP (dF hD rfl) hS hA [0, 6, 7, 8] (mcC rfl (mcC rfl (mcC rfl (mcC rfl mcN)))) (by decide +kernel) [(qt, .inr (4, [.ref qt_tube, .ref qt_goods, .ref qt_stick, .ref qt_kicks, .ref qt_kickCount, .ref qt_low, .ref qt_high, .ref qt_price, .ref qt_wired, .int it_lost, .int it_stamps, .int it_sales, .int it_damp, .int it_worn, .int it_seed])), (qt_price, .inl (cI, 5, .inl (upd ft_price (Int32.toNatClampNeg x1) x2))), (qt_low, .inl (cI, 5, .inl (upd ft_low (Int32.toNatClampNeg x1) x3))), (qt_high, .inl (cI, 5, .inl (upd ft_high (Int32.toNatClampNeg x1) x4))), (qt_goods, .inl (cI, 5, .inl (upd ft_goods (Int32.toNatClampNeg x1) x5))), (qt_wired, .inl (cI, 5, .inl (upd ft_wired (Int32.toNatClampNeg x1) x1))), (qt_stick, .inl (cI, 5, .inl g4)), (qt_kicks, .inl (cI, 5, .inl g5)), (qt_kickCount, .inl (cI, 5, .inl g6))] [1, 2, 3, 4, 5] (mcC rfl (mcC rfl (mcC rfl (mcC rfl mcN)))) ((mcC rfl (mcC rfl (mcC rfl (mcC rfl (mcC rfl mcN))))).trans (mcC rfl (mcC rfl (mcC rfl (mcC rfl (mcC rfl mcN))))).symm) 9 rfl (by decide +kernel) (va_recv hK hP (ci := 4) (q0 := 0) rfl rfl) rfl hl.1 rfl (Nat.le_of_ble_eq_true rfl) ⟨Nat.zero_le _, Nat.zero_le _⟩ dX4_setColumn_49 (fun H locs hP hS => ?_)
      simp only [Option.some.injEq, Prod.mk.injEq] at h
      obtain ⟨rfl, rfl, rfl, rfl, rfl, rfl, rfl, rfl⟩ := h
      exact hret _ _ _ _ hP hS dX4_setColumn_52
    · replace h := if_f c2 h
      simp only [Option.some.injEq, Prod.mk.injEq] at h
      obtain ⟨rfl, rfl, rfl, rfl, rfl, rfl, rfl, rfl⟩ := h
      exact hret _ _ _ _ hP hS dX4_setColumn_9
theorem hdX4_setColumn : yX4_setColumn.cls = RX4 ∧ yX4_setColumn.cls ≠ "java/lang/invoke/MethodHandle" ∧ yX4_setColumn.cls ≠ "java/lang/invoke/VarHandle" ∧ (parseMethodDescriptor yX4_setColumn.desc).map (fun d => d.parameters.length) = some 5 := by decide +kernel

noncomputable def fX4_clear_L2 (N : Nat) : Nat → Int32 → (Nat → Int32) → Option (Nat → Int32)
  | 0, _, _ => none
  | k + 1, x1, ft_tube => (if 5 ≤ x1 then some ft_tube else ck x1 5 (lt (x1 + 1) fun n3 => fX4_clear_L2 N k n3 (upd ft_tube (Int32.toNatClampNeg x1) 0)))
theorem fX4_clear_L2_s (N : Nat) (k : Nat) (x1 : Int32) (ft_tube : Nat → Int32) : fX4_clear_L2 N (k + 1) x1 ft_tube = ((if 5 ≤ x1 then some ft_tube else ck x1 5 (lt (x1 + 1) fun n3 => fX4_clear_L2 N k n3 (upd ft_tube (Int32.toNatClampNeg x1) 0)))) := rfl
noncomputable def fX4_clear_L22 (N : Nat) : Nat → Int32 → (Nat → Int32) → (Nat → Int32) → (Nat → Int32) → (Nat → Int32) → (Nat → Int32) → (Nat → Int32) → (Nat → Int32) → (Nat → Int32) → Option ((Nat → Int32) × (Nat → Int32) × (Nat → Int32) × (Nat → Int32) × (Nat → Int32) × (Nat → Int32) × (Nat → Int32) × (Nat → Int32))
  | 0, _, _, _, _, _, _, _, _, _ => none
  | k + 1, x1, ft_price, ft_low, ft_high, ft_goods, ft_wired, ft_stick, ft_kicks, ft_kickCount => (if 5 ≤ x1 then some (ft_price, ft_low, ft_high, ft_goods, ft_wired, ft_stick, ft_kicks, ft_kickCount) else bd (fX4_setColumn N ft_price ft_low ft_high ft_goods ft_wired ft_stick ft_kicks ft_kickCount x1 0 0 0 0) fun (g5, g6, g7, g8, g9, g10, g11, g12) => lt (x1 + 1) fun n14 => fX4_clear_L22 N k n14 g5 g6 g7 g8 g9 g10 g11 g12)
theorem fX4_clear_L22_s (N : Nat) (k : Nat) (x1 : Int32) (ft_price : Nat → Int32) (ft_low : Nat → Int32) (ft_high : Nat → Int32) (ft_goods : Nat → Int32) (ft_wired : Nat → Int32) (ft_stick : Nat → Int32) (ft_kicks : Nat → Int32) (ft_kickCount : Nat → Int32) : fX4_clear_L22 N (k + 1) x1 ft_price ft_low ft_high ft_goods ft_wired ft_stick ft_kicks ft_kickCount = ((if 5 ≤ x1 then some (ft_price, ft_low, ft_high, ft_goods, ft_wired, ft_stick, ft_kicks, ft_kickCount) else bd (fX4_setColumn N ft_price ft_low ft_high ft_goods ft_wired ft_stick ft_kicks ft_kickCount x1 0 0 0 0) fun (g5, g6, g7, g8, g9, g10, g11, g12) => lt (x1 + 1) fun n14 => fX4_clear_L22 N k n14 g5 g6 g7 g8 g9 g10 g11 g12)) := rfl
noncomputable def fX4_clear (N : Nat) (it_lost : Int32) (it_stamps : Int32) (it_sales : Int32) (it_damp : Int32) (it_worn : Int32) (it_seed : Int32) (ft_tube : Nat → Int32) (ft_price : Nat → Int32) (ft_low : Nat → Int32) (ft_high : Nat → Int32) (ft_goods : Nat → Int32) (ft_wired : Nat → Int32) (ft_stick : Nat → Int32) (ft_kicks : Nat → Int32) (ft_kickCount : Nat → Int32) : Option (Int32 × Int32 × Int32 × Int32 × Int32 × Int32 × (Nat → Int32) × (Nat → Int32) × (Nat → Int32) × (Nat → Int32) × (Nat → Int32) × (Nat → Int32) × (Nat → Int32) × (Nat → Int32) × (Nat → Int32)) := bd (fX4_clear_L2 N N 0 ft_tube) fun g16 => bd (fX4_clear_L22 N N 0 ft_price ft_low ft_high ft_goods ft_wired ft_stick ft_kicks ft_kickCount) fun (g18, g19, g20, g21, g22, g23, g24, g25) => some (0, 0, 0, 0, 0, 0, g16, g18, g19, g20, g21, g22, g23, g24, g25)
set_option maxHeartbeats 4000000 in
set_option maxRecDepth 100000 in
theorem ctX4_clear (l : Launch) (D : va_G) (cI cZ cB cS : ClassId) (kK kV : Nat → Nat) (sz : Nat) (qt qt_tube qt_goods qt_stick qt_kicks qt_kickCount qt_low qt_high qt_price qt_wired : Nat) (it_lost : Int32) (it_stamps : Int32) (it_sales : Int32) (it_damp : Int32) (it_worn : Int32) (it_seed : Int32) (ft_tube : Nat → Int32) (ft_price : Nat → Int32) (ft_low : Nat → Int32) (ft_high : Nat → Int32) (ft_goods : Nat → Int32) (ft_wired : Nat → Int32) (ft_stick : Nat → Int32) (ft_kicks : Nat → Int32) (ft_kickCount : Nat → Int32)  (N : Nat) (w_it_lost : Int32) (w_it_stamps : Int32) (w_it_sales : Int32) (w_it_damp : Int32) (w_it_worn : Int32) (w_it_seed : Int32) (w_ft_tube : Nat → Int32) (w_ft_price : Nat → Int32) (w_ft_low : Nat → Int32) (w_ft_high : Nat → Int32) (w_ft_goods : Nat → Int32) (w_ft_wired : Nat → Int32) (w_ft_stick : Nat → Int32) (w_ft_kicks : Nat → Int32) (w_ft_kickCount : Nat → Int32) (h : fX4_clear N it_lost it_stamps it_sales it_damp it_worn it_seed ft_tube ft_price ft_low ft_high ft_goods ft_wired ft_stick ft_kicks ft_kickCount = some (w_it_lost, w_it_stamps, w_it_sales, w_it_damp, w_it_worn, w_it_seed, w_ft_tube, w_ft_price, w_ft_low, w_ft_high, w_ft_goods, w_ft_wired, w_ft_stick, w_ft_kicks, w_ft_kickCount)) : CtV l yX4_clear wsX4_clear { frames := 2, cells := 0, slots := 0, locals := 46 } D (TY cI cZ cB cS) kK kV [.ref qt] [(qt, .inr (4, [.ref qt_tube, .ref qt_goods, .ref qt_stick, .ref qt_kicks, .ref qt_kickCount, .ref qt_low, .ref qt_high, .ref qt_price, .ref qt_wired, .int it_lost, .int it_stamps, .int it_sales, .int it_damp, .int it_worn, .int it_seed])), (qt_tube, .inl (cI, 5, .inl ft_tube)), (qt_price, .inl (cI, 5, .inl ft_price)), (qt_low, .inl (cI, 5, .inl ft_low)), (qt_high, .inl (cI, 5, .inl ft_high)), (qt_goods, .inl (cI, 5, .inl ft_goods)), (qt_wired, .inl (cI, 5, .inl ft_wired)), (qt_stick, .inl (cI, 5, .inl ft_stick)), (qt_kicks, .inl (cI, 5, .inl ft_kicks)), (qt_kickCount, .inl (cI, 5, .inl ft_kickCount))] [(qt, .inr (4, [.ref qt_tube, .ref qt_goods, .ref qt_stick, .ref qt_kicks, .ref qt_kickCount, .ref qt_low, .ref qt_high, .ref qt_price, .ref qt_wired, .int w_it_lost, .int w_it_stamps, .int w_it_sales, .int w_it_damp, .int w_it_worn, .int w_it_seed])), (qt_tube, .inl (cI, 5, .inl w_ft_tube)), (qt_price, .inl (cI, 5, .inl w_ft_price)), (qt_low, .inl (cI, 5, .inl w_ft_low)), (qt_high, .inl (cI, 5, .inl w_ft_high)), (qt_goods, .inl (cI, 5, .inl w_ft_goods)), (qt_wired, .inl (cI, 5, .inl w_ft_wired)), (qt_stick, .inl (cI, 5, .inl w_ft_stick)), (qt_kicks, .inl (cI, 5, .inl w_ft_kicks)), (qt_kickCount, .inl (cI, 5, .inl w_ft_kickCount))] sz := by
  refine mkV (cc := cX4_clear) (maxL := 2) (own := RX4) (by decide) rfl rfl (Nat.le_of_ble_eq_true rfl) ?_
  intro p e s m args below meth c A Z ls hx hb hml hown hts hK hN hX hP hD hA hS hret hl
  have hl : lv_has ls 2 [(0, .ref qt)] := hl
  have fl9 : (Cond.fieldLink RX4 9 "SoupWall$State" "tube" "[I").before args s = true := hts _ (List.mem_of_getElem? (l := wsX4_clear) (i := 1) rfl)
  have hiX4 : ∀ w ∈ wsX40, w ∈ wsX4_clear := fun w h => List.mem_cons_of_mem _ (List.mem_append_right _ h)
  have fl43 : (Cond.fieldLink RX4 43 "SoupWall$State" "lost" "I").before args s = true := hts _ (List.mem_of_getElem? (l := wsX4_clear) (i := 2) rfl)
  have fl47 : (Cond.fieldLink RX4 47 "SoupWall$State" "stamps" "I").before args s = true := hts _ (List.mem_of_getElem? (l := wsX4_clear) (i := 3) rfl)
  have fl50 : (Cond.fieldLink RX4 50 "SoupWall$State" "sales" "I").before args s = true := hts _ (List.mem_of_getElem? (l := wsX4_clear) (i := 4) rfl)
  have fl53 : (Cond.fieldLink RX4 53 "SoupWall$State" "damp" "I").before args s = true := hts _ (List.mem_of_getElem? (l := wsX4_clear) (i := 5) rfl)
  have fl56 : (Cond.fieldLink RX4 56 "SoupWall$State" "worn" "I").before args s = true := hts _ (List.mem_of_getElem? (l := wsX4_clear) (i := 6) rfl)
  have fl59 : (Cond.fieldLink RX4 59 "SoupWall$State" "seed" "I").before args s = true := hts _ (List.mem_of_getElem? (l := wsX4_clear) (i := 7) rfl)
  have lp2 : ∀ (k : Nat) (x1 : Int32) (it_lost : Int32) (it_stamps : Int32) (it_sales : Int32) (it_damp : Int32) (it_worn : Int32) (it_seed : Int32) (ft_tube : Nat → Int32) (ft_price : Nat → Int32) (ft_low : Nat → Int32) (ft_high : Nat → Int32) (ft_goods : Nat → Int32) (ft_wired : Nat → Int32) (ft_stick : Nat → Int32) (ft_kicks : Nat → Int32) (ft_kickCount : Nat → Int32) (H : Heap) (locs : List Loc) (ls : Array Slot) (o : Nat → Int32), fX4_clear_L2 N k x1 ft_tube = some o → va_P D vwCl [(qt, .inr (4, [.ref qt_tube, .ref qt_goods, .ref qt_stick, .ref qt_kicks, .ref qt_kickCount, .ref qt_low, .ref qt_high, .ref qt_price, .ref qt_wired, .int it_lost, .int it_stamps, .int it_sales, .int it_damp, .int it_worn, .int it_seed])), (qt_tube, .inl (cI, 5, .inl ft_tube)), (qt_price, .inl (cI, 5, .inl ft_price)), (qt_low, .inl (cI, 5, .inl ft_low)), (qt_high, .inl (cI, 5, .inl ft_high)), (qt_goods, .inl (cI, 5, .inl ft_goods)), (qt_wired, .inl (cI, 5, .inl ft_wired)), (qt_stick, .inl (cI, 5, .inl ft_stick)), (qt_kicks, .inl (cI, 5, .inl ft_kicks)), (qt_kickCount, .inl (cI, 5, .inl ft_kickCount))] H → va_S A s.heap H locs → lv_has ls 2 [(0, .ref qt), (1, .int x1)] → (∀ (e_ft_tube : Nat → Int32), e_ft_tube = o → ∀ (H : Heap) (locs : List Loc) (ls : Array Slot), va_P D vwCl [(qt, .inr (4, [.ref qt_tube, .ref qt_goods, .ref qt_stick, .ref qt_kicks, .ref qt_kickCount, .ref qt_low, .ref qt_high, .ref qt_price, .ref qt_wired, .int it_lost, .int it_stamps, .int it_sales, .int it_damp, .int it_worn, .int it_seed])), (qt_tube, .inl (cI, 5, .inl e_ft_tube)), (qt_price, .inl (cI, 5, .inl ft_price)), (qt_low, .inl (cI, 5, .inl ft_low)), (qt_high, .inl (cI, 5, .inl ft_high)), (qt_goods, .inl (cI, 5, .inl ft_goods)), (qt_wired, .inl (cI, 5, .inl ft_wired)), (qt_stick, .inl (cI, 5, .inl ft_stick)), (qt_kicks, .inl (cI, 5, .inl ft_kicks)), (qt_kickCount, .inl (cI, 5, .inl ft_kickCount))] H → va_S A s.heap H locs → lv_has ls 2 [(0, .ref qt)] → W p l e ({ frames := 2, cells := 0, slots := 0, locals := 46 } : Room) s m args below meth c H locs 0 0 Z (F0 m 20 ls [])) → W p l e ({ frames := 2, cells := 0, slots := 0, locals := 46 } : Room) s m args below meth c H locs 0 0 Z (F0 m 2 ls []) := by
    intro k
    induction k with
    | zero =>
      intro x1 it_lost it_stamps it_sales it_damp it_worn it_seed ft_tube ft_price ft_low ft_high ft_goods ft_wired ft_stick ft_kicks ft_kickCount H locs ls o h
      exact nomatch (show (none : Option (Nat → Int32)) = some o from h)
    | succ k ih =>
      intro x1 it_lost it_stamps it_sales it_damp it_worn it_seed ft_tube ft_price ft_low ft_high ft_goods ft_wired ft_stick ft_kicks ft_kickCount H locs ls o h hP hS hl K
      rw [fX4_clear_L2_s] at h
      refine lv_iload_n hx hb dX4_clear_2 rfl (lv_at hl 1 rfl) ?_
      refine lv_iconst (v := 5) hx hb dX4_clear_3 (by decide) ?_
      refine lv_icmp_ge (tgt := 20) hx hb dX4_clear_4 (by decide) (fun c1 => ?_) (fun c1 => ?_)
      · replace h := if_t c1 h
        exact K ft_tube (Option.some.inj h) _ _ _ hP hS (lv_sub hl [0] rfl)
      · replace h := if_f c1 h
        refine lv_aload_n hx hb dX4_clear_7 rfl (lv_at hl 0 rfl) ?_
        refine va_get (ci := 4) (v := .ref qt_tube) (C := RX4) (T := TX4) (N := 15) hx hb hts hiX4 hown hK hP 0 rfl rfl 0 (by decide) fl9 (fun _ h9 => h9) rfl dX4_clear_8 ?_
        refine lv_iload_n hx hb dX4_clear_11 rfl (lv_at hl 1 rfl) ?_
        refine lv_iconst (v := 0) hx hb dX4_clear_12 (by decide) ?_
        replace h := ck_el h
        obtain ⟨hi2, h⟩ := h
        refine va_iast hx hb hK hP (dF hD rfl) hS 1 0 rfl rfl hi2 dX4_clear_13 (fun H locs hP _ hS => ?_)
        replace hP : va_P D vwCl [(qt, .inr (4, [.ref qt_tube, .ref qt_goods, .ref qt_stick, .ref qt_kicks, .ref qt_kickCount, .ref qt_low, .ref qt_high, .ref qt_price, .ref qt_wired, .int it_lost, .int it_stamps, .int it_sales, .int it_damp, .int it_worn, .int it_seed])), (qt_tube, .inl (cI, 5, .inl (upd ft_tube (Int32.toNatClampNeg x1) 0))), (qt_price, .inl (cI, 5, .inl ft_price)), (qt_low, .inl (cI, 5, .inl ft_low)), (qt_high, .inl (cI, 5, .inl ft_high)), (qt_goods, .inl (cI, 5, .inl ft_goods)), (qt_wired, .inl (cI, 5, .inl ft_wired)), (qt_stick, .inl (cI, 5, .inl ft_stick)), (qt_kicks, .inl (cI, 5, .inl ft_kicks)), (qt_kickCount, .inl (cI, 5, .inl ft_kickCount))] H := hP
        obtain ⟨n3, en3⟩ : ∃ z : Int32, z = x1 + 1 := ⟨_, rfl⟩
        replace h := lt_at en3 h
        refine lv_iinc (v := n3) (lv' := [(1, .int n3), (0, .ref qt)]) hx hb dX4_clear_14 hl (k := 1) rfl (by rw [en3]; rfl) (by decide) rfl (fun ls hl => ?_)
        refine lv_goto (tgt := 2) hx hb dX4_clear_17 (by decide) ?_
        exact ih n3 it_lost it_stamps it_sales it_damp it_worn it_seed (upd ft_tube (Int32.toNatClampNeg x1) 0) ft_price ft_low ft_high ft_goods ft_wired ft_stick ft_kicks ft_kickCount _ _ _ o h hP hS (lv_sub hl [1, 0] rfl) K
  have lp22 : ∀ (k : Nat) (x1 : Int32) (it_lost : Int32) (it_stamps : Int32) (it_sales : Int32) (it_damp : Int32) (it_worn : Int32) (it_seed : Int32) (ft_tube : Nat → Int32) (ft_price : Nat → Int32) (ft_low : Nat → Int32) (ft_high : Nat → Int32) (ft_goods : Nat → Int32) (ft_wired : Nat → Int32) (ft_stick : Nat → Int32) (ft_kicks : Nat → Int32) (ft_kickCount : Nat → Int32) (H : Heap) (locs : List Loc) (ls : Array Slot) (o : (Nat → Int32) × (Nat → Int32) × (Nat → Int32) × (Nat → Int32) × (Nat → Int32) × (Nat → Int32) × (Nat → Int32) × (Nat → Int32)), fX4_clear_L22 N k x1 ft_price ft_low ft_high ft_goods ft_wired ft_stick ft_kicks ft_kickCount = some o → va_P D vwCl [(qt, .inr (4, [.ref qt_tube, .ref qt_goods, .ref qt_stick, .ref qt_kicks, .ref qt_kickCount, .ref qt_low, .ref qt_high, .ref qt_price, .ref qt_wired, .int it_lost, .int it_stamps, .int it_sales, .int it_damp, .int it_worn, .int it_seed])), (qt_tube, .inl (cI, 5, .inl ft_tube)), (qt_price, .inl (cI, 5, .inl ft_price)), (qt_low, .inl (cI, 5, .inl ft_low)), (qt_high, .inl (cI, 5, .inl ft_high)), (qt_goods, .inl (cI, 5, .inl ft_goods)), (qt_wired, .inl (cI, 5, .inl ft_wired)), (qt_stick, .inl (cI, 5, .inl ft_stick)), (qt_kicks, .inl (cI, 5, .inl ft_kicks)), (qt_kickCount, .inl (cI, 5, .inl ft_kickCount))] H → va_S A s.heap H locs → lv_has ls 2 [(0, .ref qt), (1, .int x1)] → (∀ (e_ft_price : Nat → Int32) (e_ft_low : Nat → Int32) (e_ft_high : Nat → Int32) (e_ft_goods : Nat → Int32) (e_ft_wired : Nat → Int32) (e_ft_stick : Nat → Int32) (e_ft_kicks : Nat → Int32) (e_ft_kickCount : Nat → Int32), (e_ft_price, e_ft_low, e_ft_high, e_ft_goods, e_ft_wired, e_ft_stick, e_ft_kicks, e_ft_kickCount) = o → ∀ (H : Heap) (locs : List Loc) (ls : Array Slot), va_P D vwCl [(qt, .inr (4, [.ref qt_tube, .ref qt_goods, .ref qt_stick, .ref qt_kicks, .ref qt_kickCount, .ref qt_low, .ref qt_high, .ref qt_price, .ref qt_wired, .int it_lost, .int it_stamps, .int it_sales, .int it_damp, .int it_worn, .int it_seed])), (qt_tube, .inl (cI, 5, .inl ft_tube)), (qt_price, .inl (cI, 5, .inl e_ft_price)), (qt_low, .inl (cI, 5, .inl e_ft_low)), (qt_high, .inl (cI, 5, .inl e_ft_high)), (qt_goods, .inl (cI, 5, .inl e_ft_goods)), (qt_wired, .inl (cI, 5, .inl e_ft_wired)), (qt_stick, .inl (cI, 5, .inl e_ft_stick)), (qt_kicks, .inl (cI, 5, .inl e_ft_kicks)), (qt_kickCount, .inl (cI, 5, .inl e_ft_kickCount))] H → va_S A s.heap H locs → lv_has ls 2 [(0, .ref qt)] → W p l e ({ frames := 2, cells := 0, slots := 0, locals := 46 } : Room) s m args below meth c H locs 0 0 Z (F0 m 42 ls [])) → W p l e ({ frames := 2, cells := 0, slots := 0, locals := 46 } : Room) s m args below meth c H locs 0 0 Z (F0 m 22 ls []) := by
    intro k
    induction k with
    | zero =>
      intro x1 it_lost it_stamps it_sales it_damp it_worn it_seed ft_tube ft_price ft_low ft_high ft_goods ft_wired ft_stick ft_kicks ft_kickCount H locs ls o h
      exact nomatch (show (none : Option ((Nat → Int32) × (Nat → Int32) × (Nat → Int32) × (Nat → Int32) × (Nat → Int32) × (Nat → Int32) × (Nat → Int32) × (Nat → Int32))) = some o from h)
    | succ k ih =>
      intro x1 it_lost it_stamps it_sales it_damp it_worn it_seed ft_tube ft_price ft_low ft_high ft_goods ft_wired ft_stick ft_kicks ft_kickCount H locs ls o h hP hS hl K
      rw [fX4_clear_L22_s] at h
      refine lv_iload_n hx hb dX4_clear_22 rfl (lv_at hl 1 rfl) ?_
      refine lv_iconst (v := 5) hx hb dX4_clear_23 (by decide) ?_
      refine lv_icmp_ge (tgt := 42) hx hb dX4_clear_24 (by decide) (fun c4 => ?_) (fun c4 => ?_)
      · replace h := if_t c4 h
        exact K ft_price ft_low ft_high ft_goods ft_wired ft_stick ft_kicks ft_kickCount (Option.some.inj h) _ _ _ hP hS (lv_sub hl [0] rfl)
      · replace h := if_f c4 h
        refine lv_aload_n hx hb dX4_clear_27 rfl (lv_at hl 0 rfl) ?_
        refine lv_iload_n hx hb dX4_clear_28 rfl (lv_at hl 1 rfl) ?_
        refine lv_iconst (v := 0) hx hb dX4_clear_29 (by decide) ?_
        refine lv_iconst (v := 0) hx hb dX4_clear_30 (by decide) ?_
        refine lv_iconst (v := 0) hx hb dX4_clear_31 (by decide) ?_
        refine lv_iconst (v := 0) hx hb dX4_clear_32 (by decide) ?_
        replace h := bd_el h
        obtain ⟨⟨g5, g6, g7, g8, g9, g10, g11, g12⟩, hc13, h⟩ := h
        refine callVV (rest := []) ⟨hx, hb, hml, hown, hts⟩ (ctX4_setColumn l D cI cZ cB cS kK kV _ qt qt_tube qt_goods qt_stick qt_kicks qt_kickCount qt_low qt_high qt_price qt_wired it_lost it_stamps it_sales it_damp it_worn it_seed ft_price ft_low ft_high ft_goods ft_wired ft_stick ft_kicks ft_kickCount x1 0 0 0 0 N g5 g6 g7 g8 g9 g10 g11 g12 hc13) (cwV 5 hts gX4_clear_X4_setColumn rfl rfl rfl hdX4_setColumn ⟨Nat.le_of_ble_eq_true rfl, Nat.le_of_ble_eq_true rfl⟩) hK hN hX hP (dF hD rfl) hS hA [0, 2, 3, 4, 5, 6, 7, 8, 9] (mcC rfl (mcC rfl (mcC rfl (mcC rfl (mcC rfl (mcC rfl (mcC rfl (mcC rfl (mcC rfl mcN))))))))) (by decide +kernel) [(qt, .inr (4, [.ref qt_tube, .ref qt_goods, .ref qt_stick, .ref qt_kicks, .ref qt_kickCount, .ref qt_low, .ref qt_high, .ref qt_price, .ref qt_wired, .int it_lost, .int it_stamps, .int it_sales, .int it_damp, .int it_worn, .int it_seed])), (qt_tube, .inl (cI, 5, .inl ft_tube)), (qt_price, .inl (cI, 5, .inl g5)), (qt_low, .inl (cI, 5, .inl g6)), (qt_high, .inl (cI, 5, .inl g7)), (qt_goods, .inl (cI, 5, .inl g8)), (qt_wired, .inl (cI, 5, .inl g9)), (qt_stick, .inl (cI, 5, .inl g10)), (qt_kicks, .inl (cI, 5, .inl g11)), (qt_kickCount, .inl (cI, 5, .inl g12))] [1] (mcC rfl (mcC rfl (mcC rfl (mcC rfl (mcC rfl (mcC rfl (mcC rfl (mcC rfl (mcC rfl mcN))))))))) ((mcC rfl mcN).trans (mcC rfl mcN).symm) 10 rfl (by decide +kernel) (va_recv hK hP (ci := 4) (q0 := 0) rfl rfl) rfl hl.1 rfl (Nat.le_of_ble_eq_true rfl) ⟨Nat.zero_le _, Nat.zero_le _⟩ dX4_clear_33 (fun H locs hP hS => ?_)
        obtain ⟨n14, en14⟩ : ∃ z : Int32, z = x1 + 1 := ⟨_, rfl⟩
        replace h := lt_at en14 h
        refine lv_iinc (v := n14) (lv' := [(1, .int n14), (0, .ref qt)]) hx hb dX4_clear_36 hl (k := 1) rfl (by rw [en14]; rfl) (by decide) rfl (fun ls hl => ?_)
        refine lv_goto (tgt := 22) hx hb dX4_clear_39 (by decide) ?_
        exact ih n14 it_lost it_stamps it_sales it_damp it_worn it_seed ft_tube g5 g6 g7 g8 g9 g10 g11 g12 _ _ _ o h hP hS (lv_sub hl [1, 0] rfl) K
  unfold fX4_clear at h
  refine lv_iconst (v := 0) hx hb dX4_clear_0 (by decide) ?_
  refine lv_istore_n (lv' := [(1, .int 0), (0, .ref qt)]) hx hb dX4_clear_1 rfl hl (by decide) rfl (fun ls hl => ?_)
  replace h := bd_el h
  obtain ⟨o15, ho15, h⟩ := h
  refine lp2 N 0 it_lost it_stamps it_sales it_damp it_worn it_seed ft_tube ft_price ft_low ft_high ft_goods ft_wired ft_stick ft_kicks ft_kickCount _ _ _ o15 ho15 hP hS (lv_sub hl [1, 0] rfl) (fun g16 eo H locs ls hP hS hl => ?_)
  subst eo
  refine lv_iconst (v := 0) hx hb dX4_clear_20 (by decide) ?_
  refine lv_istore_n (lv' := [(1, .int 0), (0, .ref qt)]) hx hb dX4_clear_21 rfl hl (by decide) rfl (fun ls hl => ?_)
  replace h := bd_el h
  obtain ⟨o17, ho17, h⟩ := h
  refine lp22 N 0 it_lost it_stamps it_sales it_damp it_worn it_seed g16 ft_price ft_low ft_high ft_goods ft_wired ft_stick ft_kicks ft_kickCount _ _ _ o17 ho17 hP hS (lv_sub hl [1, 0] rfl) (fun g18 g19 g20 g21 g22 g23 g24 g25 eo H locs ls hP hS hl => ?_)
  subst eo
  refine lv_aload_n hx hb dX4_clear_42 rfl (lv_at hl 0 rfl) ?_
  refine lv_iconst (v := 0) hx hb dX4_clear_43 (by decide) ?_
  refine va_put (ci := 4) (v := .int 0) (ty := .int) (C := RX4) (T := TX4) (N := 15) hx hb hts hiX4 tyX4 tyX4_ok nmX4 hown hK hP (dF hD rfl) hS 0 rfl rfl 9 (by decide) fl43 (fun _ h9 => h9) rfl (by decide +kernel) rfl rfl (Nat.le_of_ble_eq_true rfl) dX4_clear_44 (fun H locs hP _ hS => ?_)
  replace hP : va_P D vwCl [(qt, .inr (4, [.ref qt_tube, .ref qt_goods, .ref qt_stick, .ref qt_kicks, .ref qt_kickCount, .ref qt_low, .ref qt_high, .ref qt_price, .ref qt_wired, .int 0, .int it_stamps, .int it_sales, .int it_damp, .int it_worn, .int it_seed])), (qt_tube, .inl (cI, 5, .inl g16)), (qt_price, .inl (cI, 5, .inl g18)), (qt_low, .inl (cI, 5, .inl g19)), (qt_high, .inl (cI, 5, .inl g20)), (qt_goods, .inl (cI, 5, .inl g21)), (qt_wired, .inl (cI, 5, .inl g22)), (qt_stick, .inl (cI, 5, .inl g23)), (qt_kicks, .inl (cI, 5, .inl g24)), (qt_kickCount, .inl (cI, 5, .inl g25))] H := hP
  refine lv_aload_n hx hb dX4_clear_47 rfl (lv_at hl 0 rfl) ?_
  refine lv_iconst (v := 0) hx hb dX4_clear_48 (by decide) ?_
  refine va_put (ci := 4) (v := .int 0) (ty := .int) (C := RX4) (T := TX4) (N := 15) hx hb hts hiX4 tyX4 tyX4_ok nmX4 hown hK hP (dF hD rfl) hS 0 rfl rfl 10 (by decide) fl47 (fun _ h9 => h9) rfl (by decide +kernel) rfl rfl (Nat.le_of_ble_eq_true rfl) dX4_clear_49 (fun H locs hP _ hS => ?_)
  replace hP : va_P D vwCl [(qt, .inr (4, [.ref qt_tube, .ref qt_goods, .ref qt_stick, .ref qt_kicks, .ref qt_kickCount, .ref qt_low, .ref qt_high, .ref qt_price, .ref qt_wired, .int 0, .int 0, .int it_sales, .int it_damp, .int it_worn, .int it_seed])), (qt_tube, .inl (cI, 5, .inl g16)), (qt_price, .inl (cI, 5, .inl g18)), (qt_low, .inl (cI, 5, .inl g19)), (qt_high, .inl (cI, 5, .inl g20)), (qt_goods, .inl (cI, 5, .inl g21)), (qt_wired, .inl (cI, 5, .inl g22)), (qt_stick, .inl (cI, 5, .inl g23)), (qt_kicks, .inl (cI, 5, .inl g24)), (qt_kickCount, .inl (cI, 5, .inl g25))] H := hP
  refine lv_aload_n hx hb dX4_clear_52 rfl (lv_at hl 0 rfl) ?_
  refine lv_iconst (v := 0) hx hb dX4_clear_53 (by decide) ?_
  refine va_put (ci := 4) (v := .int 0) (ty := .int) (C := RX4) (T := TX4) (N := 15) hx hb hts hiX4 tyX4 tyX4_ok nmX4 hown hK hP (dF hD rfl) hS 0 rfl rfl 11 (by decide) fl50 (fun _ h9 => h9) rfl (by decide +kernel) rfl rfl (Nat.le_of_ble_eq_true rfl) dX4_clear_54 (fun H locs hP _ hS => ?_)
  replace hP : va_P D vwCl [(qt, .inr (4, [.ref qt_tube, .ref qt_goods, .ref qt_stick, .ref qt_kicks, .ref qt_kickCount, .ref qt_low, .ref qt_high, .ref qt_price, .ref qt_wired, .int 0, .int 0, .int 0, .int it_damp, .int it_worn, .int it_seed])), (qt_tube, .inl (cI, 5, .inl g16)), (qt_price, .inl (cI, 5, .inl g18)), (qt_low, .inl (cI, 5, .inl g19)), (qt_high, .inl (cI, 5, .inl g20)), (qt_goods, .inl (cI, 5, .inl g21)), (qt_wired, .inl (cI, 5, .inl g22)), (qt_stick, .inl (cI, 5, .inl g23)), (qt_kicks, .inl (cI, 5, .inl g24)), (qt_kickCount, .inl (cI, 5, .inl g25))] H := hP
  refine lv_aload_n hx hb dX4_clear_57 rfl (lv_at hl 0 rfl) ?_
  refine lv_iconst (v := 0) hx hb dX4_clear_58 (by decide) ?_
  refine va_put (ci := 4) (v := .int 0) (ty := .int) (C := RX4) (T := TX4) (N := 15) hx hb hts hiX4 tyX4 tyX4_ok nmX4 hown hK hP (dF hD rfl) hS 0 rfl rfl 12 (by decide) fl53 (fun _ h9 => h9) rfl (by decide +kernel) rfl rfl (Nat.le_of_ble_eq_true rfl) dX4_clear_59 (fun H locs hP _ hS => ?_)
  replace hP : va_P D vwCl [(qt, .inr (4, [.ref qt_tube, .ref qt_goods, .ref qt_stick, .ref qt_kicks, .ref qt_kickCount, .ref qt_low, .ref qt_high, .ref qt_price, .ref qt_wired, .int 0, .int 0, .int 0, .int 0, .int it_worn, .int it_seed])), (qt_tube, .inl (cI, 5, .inl g16)), (qt_price, .inl (cI, 5, .inl g18)), (qt_low, .inl (cI, 5, .inl g19)), (qt_high, .inl (cI, 5, .inl g20)), (qt_goods, .inl (cI, 5, .inl g21)), (qt_wired, .inl (cI, 5, .inl g22)), (qt_stick, .inl (cI, 5, .inl g23)), (qt_kicks, .inl (cI, 5, .inl g24)), (qt_kickCount, .inl (cI, 5, .inl g25))] H := hP
  refine lv_aload_n hx hb dX4_clear_62 rfl (lv_at hl 0 rfl) ?_
  refine lv_iconst (v := 0) hx hb dX4_clear_63 (by decide) ?_
  refine va_put (ci := 4) (v := .int 0) (ty := .int) (C := RX4) (T := TX4) (N := 15) hx hb hts hiX4 tyX4 tyX4_ok nmX4 hown hK hP (dF hD rfl) hS 0 rfl rfl 13 (by decide) fl56 (fun _ h9 => h9) rfl (by decide +kernel) rfl rfl (Nat.le_of_ble_eq_true rfl) dX4_clear_64 (fun H locs hP _ hS => ?_)
  replace hP : va_P D vwCl [(qt, .inr (4, [.ref qt_tube, .ref qt_goods, .ref qt_stick, .ref qt_kicks, .ref qt_kickCount, .ref qt_low, .ref qt_high, .ref qt_price, .ref qt_wired, .int 0, .int 0, .int 0, .int 0, .int 0, .int it_seed])), (qt_tube, .inl (cI, 5, .inl g16)), (qt_price, .inl (cI, 5, .inl g18)), (qt_low, .inl (cI, 5, .inl g19)), (qt_high, .inl (cI, 5, .inl g20)), (qt_goods, .inl (cI, 5, .inl g21)), (qt_wired, .inl (cI, 5, .inl g22)), (qt_stick, .inl (cI, 5, .inl g23)), (qt_kicks, .inl (cI, 5, .inl g24)), (qt_kickCount, .inl (cI, 5, .inl g25))] H := hP
  refine lv_aload_n hx hb dX4_clear_67 rfl (lv_at hl 0 rfl) ?_
  refine lv_iconst (v := 0) hx hb dX4_clear_68 (by decide) ?_
  refine va_put (ci := 4) (v := .int 0) (ty := .int) (C := RX4) (T := TX4) (N := 15) hx hb hts hiX4 tyX4 tyX4_ok nmX4 hown hK hP (dF hD rfl) hS 0 rfl rfl 14 (by decide) fl59 (fun _ h9 => h9) rfl (by decide +kernel) rfl rfl (Nat.le_of_ble_eq_true rfl) dX4_clear_69 (fun H locs hP _ hS => ?_)
  replace hP : va_P D vwCl [(qt, .inr (4, [.ref qt_tube, .ref qt_goods, .ref qt_stick, .ref qt_kicks, .ref qt_kickCount, .ref qt_low, .ref qt_high, .ref qt_price, .ref qt_wired, .int 0, .int 0, .int 0, .int 0, .int 0, .int 0])), (qt_tube, .inl (cI, 5, .inl g16)), (qt_price, .inl (cI, 5, .inl g18)), (qt_low, .inl (cI, 5, .inl g19)), (qt_high, .inl (cI, 5, .inl g20)), (qt_goods, .inl (cI, 5, .inl g21)), (qt_wired, .inl (cI, 5, .inl g22)), (qt_stick, .inl (cI, 5, .inl g23)), (qt_kicks, .inl (cI, 5, .inl g24)), (qt_kickCount, .inl (cI, 5, .inl g25))] H := hP
  simp only [Option.some.injEq, Prod.mk.injEq] at h
  obtain ⟨rfl, rfl, rfl, rfl, rfl, rfl, rfl, rfl, rfl, rfl, rfl, rfl, rfl, rfl, rfl⟩ := h
  exact hret _ _ _ _ hP hS dX4_clear_72
theorem hdX4_clear : yX4_clear.cls = RX4 ∧ yX4_clear.cls ≠ "java/lang/invoke/MethodHandle" ∧ yX4_clear.cls ≠ "java/lang/invoke/VarHandle" ∧ (parseMethodDescriptor yX4_clear.desc).map (fun d => d.parameters.length) = some 0 := by decide +kernel

noncomputable def fX4_copyFrom_L2 (N : Nat) : Nat → Int32 → (Nat → Int32) → (Nat → Int32) → Option (Nat → Int32)
  | 0, _, _, _ => none
  | k + 1, x2, ft_tube, fs1_tube => (if 5 ≤ x2 then some ft_tube else ck x2 5 (lt (fs1_tube (Int32.toNatClampNeg x2)) fun n3 => lt (x2 + 1) fun n4 => fX4_copyFrom_L2 N k n4 (upd ft_tube (Int32.toNatClampNeg x2) n3) fs1_tube))
theorem fX4_copyFrom_L2_s (N : Nat) (k : Nat) (x2 : Int32) (ft_tube : Nat → Int32) (fs1_tube : Nat → Int32) : fX4_copyFrom_L2 N (k + 1) x2 ft_tube fs1_tube = ((if 5 ≤ x2 then some ft_tube else ck x2 5 (lt (fs1_tube (Int32.toNatClampNeg x2)) fun n3 => lt (x2 + 1) fun n4 => fX4_copyFrom_L2 N k n4 (upd ft_tube (Int32.toNatClampNeg x2) n3) fs1_tube))) := rfl
noncomputable def fX4_copyFrom_L27 (N : Nat) : Nat → Int32 → (Nat → Int32) → (Nat → Int32) → (Nat → Int32) → (Nat → Int32) → (Nat → Int32) → (Nat → Int32) → (Nat → Int32) → (Nat → Int32) → (Nat → Int32) → (Nat → Int32) → (Nat → Int32) → (Nat → Int32) → (Nat → Int32) → (Nat → Int32) → (Nat → Int32) → (Nat → Int32) → Option ((Nat → Int32) × (Nat → Int32) × (Nat → Int32) × (Nat → Int32) × (Nat → Int32) × (Nat → Int32) × (Nat → Int32) × (Nat → Int32))
  | 0, _, _, _, _, _, _, _, _, _, _, _, _, _, _, _, _, _ => none
  | k + 1, x2, ft_goods, fs1_goods, ft_stick, fs1_stick, ft_kicks, fs1_kicks, ft_kickCount, fs1_kickCount, ft_low, fs1_low, ft_high, fs1_high, ft_price, fs1_price, ft_wired, fs1_wired => (if 5 ≤ x2 then some (ft_goods, ft_stick, ft_kicks, ft_kickCount, ft_low, ft_high, ft_price, ft_wired) else ck x2 5 (lt (fs1_goods (Int32.toNatClampNeg x2)) fun n7 => lt (fs1_stick (Int32.toNatClampNeg x2)) fun n8 => lt (fs1_kicks (Int32.toNatClampNeg x2)) fun n9 => lt (fs1_kickCount (Int32.toNatClampNeg x2)) fun n10 => lt (fs1_low (Int32.toNatClampNeg x2)) fun n11 => lt (fs1_high (Int32.toNatClampNeg x2)) fun n12 => lt (fs1_price (Int32.toNatClampNeg x2)) fun n13 => lt (fs1_wired (Int32.toNatClampNeg x2)) fun n14 => lt (x2 + 1) fun n15 => fX4_copyFrom_L27 N k n15 (upd ft_goods (Int32.toNatClampNeg x2) n7) fs1_goods (upd ft_stick (Int32.toNatClampNeg x2) n8) fs1_stick (upd ft_kicks (Int32.toNatClampNeg x2) n9) fs1_kicks (upd ft_kickCount (Int32.toNatClampNeg x2) n10) fs1_kickCount (upd ft_low (Int32.toNatClampNeg x2) n11) fs1_low (upd ft_high (Int32.toNatClampNeg x2) n12) fs1_high (upd ft_price (Int32.toNatClampNeg x2) n13) fs1_price (upd ft_wired (Int32.toNatClampNeg x2) n14) fs1_wired))
theorem fX4_copyFrom_L27_s (N : Nat) (k : Nat) (x2 : Int32) (ft_goods : Nat → Int32) (fs1_goods : Nat → Int32) (ft_stick : Nat → Int32) (fs1_stick : Nat → Int32) (ft_kicks : Nat → Int32) (fs1_kicks : Nat → Int32) (ft_kickCount : Nat → Int32) (fs1_kickCount : Nat → Int32) (ft_low : Nat → Int32) (fs1_low : Nat → Int32) (ft_high : Nat → Int32) (fs1_high : Nat → Int32) (ft_price : Nat → Int32) (fs1_price : Nat → Int32) (ft_wired : Nat → Int32) (fs1_wired : Nat → Int32) : fX4_copyFrom_L27 N (k + 1) x2 ft_goods fs1_goods ft_stick fs1_stick ft_kicks fs1_kicks ft_kickCount fs1_kickCount ft_low fs1_low ft_high fs1_high ft_price fs1_price ft_wired fs1_wired = ((if 5 ≤ x2 then some (ft_goods, ft_stick, ft_kicks, ft_kickCount, ft_low, ft_high, ft_price, ft_wired) else ck x2 5 (lt (fs1_goods (Int32.toNatClampNeg x2)) fun n7 => lt (fs1_stick (Int32.toNatClampNeg x2)) fun n8 => lt (fs1_kicks (Int32.toNatClampNeg x2)) fun n9 => lt (fs1_kickCount (Int32.toNatClampNeg x2)) fun n10 => lt (fs1_low (Int32.toNatClampNeg x2)) fun n11 => lt (fs1_high (Int32.toNatClampNeg x2)) fun n12 => lt (fs1_price (Int32.toNatClampNeg x2)) fun n13 => lt (fs1_wired (Int32.toNatClampNeg x2)) fun n14 => lt (x2 + 1) fun n15 => fX4_copyFrom_L27 N k n15 (upd ft_goods (Int32.toNatClampNeg x2) n7) fs1_goods (upd ft_stick (Int32.toNatClampNeg x2) n8) fs1_stick (upd ft_kicks (Int32.toNatClampNeg x2) n9) fs1_kicks (upd ft_kickCount (Int32.toNatClampNeg x2) n10) fs1_kickCount (upd ft_low (Int32.toNatClampNeg x2) n11) fs1_low (upd ft_high (Int32.toNatClampNeg x2) n12) fs1_high (upd ft_price (Int32.toNatClampNeg x2) n13) fs1_price (upd ft_wired (Int32.toNatClampNeg x2) n14) fs1_wired))) := rfl
noncomputable def fX4_copyFrom (N : Nat) (it_lost : Int32) (it_stamps : Int32) (it_sales : Int32) (it_damp : Int32) (it_worn : Int32) (it_seed : Int32) (is1_lost : Int32) (is1_stamps : Int32) (is1_sales : Int32) (is1_damp : Int32) (is1_worn : Int32) (is1_seed : Int32) (ft_tube : Nat → Int32) (fs1_tube : Nat → Int32) (ft_goods : Nat → Int32) (fs1_goods : Nat → Int32) (ft_stick : Nat → Int32) (fs1_stick : Nat → Int32) (ft_kicks : Nat → Int32) (fs1_kicks : Nat → Int32) (ft_kickCount : Nat → Int32) (fs1_kickCount : Nat → Int32) (ft_low : Nat → Int32) (fs1_low : Nat → Int32) (ft_high : Nat → Int32) (fs1_high : Nat → Int32) (ft_price : Nat → Int32) (fs1_price : Nat → Int32) (ft_wired : Nat → Int32) (fs1_wired : Nat → Int32) : Option (Int32 × Int32 × Int32 × Int32 × Int32 × Int32 × (Nat → Int32) × (Nat → Int32) × (Nat → Int32) × (Nat → Int32) × (Nat → Int32) × (Nat → Int32) × (Nat → Int32) × (Nat → Int32) × (Nat → Int32)) := bd (fX4_copyFrom_L2 N N 0 ft_tube fs1_tube) fun g17 => bd (fX4_copyFrom_L27 N N 0 ft_goods fs1_goods ft_stick fs1_stick ft_kicks fs1_kicks ft_kickCount fs1_kickCount ft_low fs1_low ft_high fs1_high ft_price fs1_price ft_wired fs1_wired) fun (g19, g20, g21, g22, g23, g24, g25, g26) => some (is1_lost, is1_stamps, is1_sales, is1_damp, is1_worn, is1_seed, g17, g19, g20, g21, g22, g23, g24, g25, g26)
set_option maxHeartbeats 4000000 in
set_option maxRecDepth 100000 in
theorem ctX4_copyFrom (l : Launch) (D : va_G) (cI cZ cB cS : ClassId) (kK kV : Nat → Nat) (sz : Nat) (qt qt_tube qt_goods qt_stick qt_kicks qt_kickCount qt_low qt_high qt_price qt_wired qs1 qs1_tube qs1_goods qs1_stick qs1_kicks qs1_kickCount qs1_low qs1_high qs1_price qs1_wired : Nat) (it_lost : Int32) (it_stamps : Int32) (it_sales : Int32) (it_damp : Int32) (it_worn : Int32) (it_seed : Int32) (is1_lost : Int32) (is1_stamps : Int32) (is1_sales : Int32) (is1_damp : Int32) (is1_worn : Int32) (is1_seed : Int32) (ft_tube : Nat → Int32) (fs1_tube : Nat → Int32) (ft_goods : Nat → Int32) (fs1_goods : Nat → Int32) (ft_stick : Nat → Int32) (fs1_stick : Nat → Int32) (ft_kicks : Nat → Int32) (fs1_kicks : Nat → Int32) (ft_kickCount : Nat → Int32) (fs1_kickCount : Nat → Int32) (ft_low : Nat → Int32) (fs1_low : Nat → Int32) (ft_high : Nat → Int32) (fs1_high : Nat → Int32) (ft_price : Nat → Int32) (fs1_price : Nat → Int32) (ft_wired : Nat → Int32) (fs1_wired : Nat → Int32)  (N : Nat) (w_it_lost : Int32) (w_it_stamps : Int32) (w_it_sales : Int32) (w_it_damp : Int32) (w_it_worn : Int32) (w_it_seed : Int32) (w_ft_tube : Nat → Int32) (w_ft_goods : Nat → Int32) (w_ft_stick : Nat → Int32) (w_ft_kicks : Nat → Int32) (w_ft_kickCount : Nat → Int32) (w_ft_low : Nat → Int32) (w_ft_high : Nat → Int32) (w_ft_price : Nat → Int32) (w_ft_wired : Nat → Int32) (h : fX4_copyFrom N it_lost it_stamps it_sales it_damp it_worn it_seed is1_lost is1_stamps is1_sales is1_damp is1_worn is1_seed ft_tube fs1_tube ft_goods fs1_goods ft_stick fs1_stick ft_kicks fs1_kicks ft_kickCount fs1_kickCount ft_low fs1_low ft_high fs1_high ft_price fs1_price ft_wired fs1_wired = some (w_it_lost, w_it_stamps, w_it_sales, w_it_damp, w_it_worn, w_it_seed, w_ft_tube, w_ft_goods, w_ft_stick, w_ft_kicks, w_ft_kickCount, w_ft_low, w_ft_high, w_ft_price, w_ft_wired)) : CtV l yX4_copyFrom wsX4_copyFrom { frames := 0, cells := 0, slots := 0, locals := 0 } D (TY cI cZ cB cS) kK kV [.ref qt, .ref qs1] [(qt, .inr (4, [.ref qt_tube, .ref qt_goods, .ref qt_stick, .ref qt_kicks, .ref qt_kickCount, .ref qt_low, .ref qt_high, .ref qt_price, .ref qt_wired, .int it_lost, .int it_stamps, .int it_sales, .int it_damp, .int it_worn, .int it_seed])), (qs1, .inr (4, [.ref qs1_tube, .ref qs1_goods, .ref qs1_stick, .ref qs1_kicks, .ref qs1_kickCount, .ref qs1_low, .ref qs1_high, .ref qs1_price, .ref qs1_wired, .int is1_lost, .int is1_stamps, .int is1_sales, .int is1_damp, .int is1_worn, .int is1_seed])), (qt_tube, .inl (cI, 5, .inl ft_tube)), (qs1_tube, .inl (cI, 5, .inl fs1_tube)), (qt_goods, .inl (cI, 5, .inl ft_goods)), (qs1_goods, .inl (cI, 5, .inl fs1_goods)), (qt_stick, .inl (cI, 5, .inl ft_stick)), (qs1_stick, .inl (cI, 5, .inl fs1_stick)), (qt_kicks, .inl (cI, 5, .inl ft_kicks)), (qs1_kicks, .inl (cI, 5, .inl fs1_kicks)), (qt_kickCount, .inl (cI, 5, .inl ft_kickCount)), (qs1_kickCount, .inl (cI, 5, .inl fs1_kickCount)), (qt_low, .inl (cI, 5, .inl ft_low)), (qs1_low, .inl (cI, 5, .inl fs1_low)), (qt_high, .inl (cI, 5, .inl ft_high)), (qs1_high, .inl (cI, 5, .inl fs1_high)), (qt_price, .inl (cI, 5, .inl ft_price)), (qs1_price, .inl (cI, 5, .inl fs1_price)), (qt_wired, .inl (cI, 5, .inl ft_wired)), (qs1_wired, .inl (cI, 5, .inl fs1_wired))] [(qt, .inr (4, [.ref qt_tube, .ref qt_goods, .ref qt_stick, .ref qt_kicks, .ref qt_kickCount, .ref qt_low, .ref qt_high, .ref qt_price, .ref qt_wired, .int w_it_lost, .int w_it_stamps, .int w_it_sales, .int w_it_damp, .int w_it_worn, .int w_it_seed])), (qs1, .inr (4, [.ref qs1_tube, .ref qs1_goods, .ref qs1_stick, .ref qs1_kicks, .ref qs1_kickCount, .ref qs1_low, .ref qs1_high, .ref qs1_price, .ref qs1_wired, .int is1_lost, .int is1_stamps, .int is1_sales, .int is1_damp, .int is1_worn, .int is1_seed])), (qt_tube, .inl (cI, 5, .inl w_ft_tube)), (qs1_tube, .inl (cI, 5, .inl fs1_tube)), (qt_goods, .inl (cI, 5, .inl w_ft_goods)), (qs1_goods, .inl (cI, 5, .inl fs1_goods)), (qt_stick, .inl (cI, 5, .inl w_ft_stick)), (qs1_stick, .inl (cI, 5, .inl fs1_stick)), (qt_kicks, .inl (cI, 5, .inl w_ft_kicks)), (qs1_kicks, .inl (cI, 5, .inl fs1_kicks)), (qt_kickCount, .inl (cI, 5, .inl w_ft_kickCount)), (qs1_kickCount, .inl (cI, 5, .inl fs1_kickCount)), (qt_low, .inl (cI, 5, .inl w_ft_low)), (qs1_low, .inl (cI, 5, .inl fs1_low)), (qt_high, .inl (cI, 5, .inl w_ft_high)), (qs1_high, .inl (cI, 5, .inl fs1_high)), (qt_price, .inl (cI, 5, .inl w_ft_price)), (qs1_price, .inl (cI, 5, .inl fs1_price)), (qt_wired, .inl (cI, 5, .inl w_ft_wired)), (qs1_wired, .inl (cI, 5, .inl fs1_wired))] sz := by
  refine mkV (cc := cX4_copyFrom) (maxL := 3) (own := RX4) (by decide) rfl rfl (Nat.le_of_ble_eq_true rfl) ?_
  intro p e s m args below meth c A Z ls hx hb hml hown hts hK hN hX hP hD hA hS hret hl
  have hl : lv_has ls 3 [(0, .ref qt), (1, .ref qs1)] := hl
  have fl9 : (Cond.fieldLink RX4 9 "SoupWall$State" "tube" "[I").before args s = true := hts _ (List.mem_of_getElem? (l := wsX4_copyFrom) (i := 1) rfl)
  have hiX4 : ∀ w ∈ wsX40, w ∈ wsX4_copyFrom := fun w h => List.mem_cons_of_mem _ (List.mem_append_right _ h)
  have fl15 : (Cond.fieldLink RX4 15 "SoupWall$State" "goods" "[I").before args s = true := hts _ (List.mem_of_getElem? (l := wsX4_copyFrom) (i := 2) rfl)
  have fl18 : (Cond.fieldLink RX4 18 "SoupWall$State" "stick" "[I").before args s = true := hts _ (List.mem_of_getElem? (l := wsX4_copyFrom) (i := 3) rfl)
  have fl21 : (Cond.fieldLink RX4 21 "SoupWall$State" "kicks" "[I").before args s = true := hts _ (List.mem_of_getElem? (l := wsX4_copyFrom) (i := 4) rfl)
  have fl24 : (Cond.fieldLink RX4 24 "SoupWall$State" "kickCount" "[I").before args s = true := hts _ (List.mem_of_getElem? (l := wsX4_copyFrom) (i := 5) rfl)
  have fl27 : (Cond.fieldLink RX4 27 "SoupWall$State" "low" "[I").before args s = true := hts _ (List.mem_of_getElem? (l := wsX4_copyFrom) (i := 6) rfl)
  have fl30 : (Cond.fieldLink RX4 30 "SoupWall$State" "high" "[I").before args s = true := hts _ (List.mem_of_getElem? (l := wsX4_copyFrom) (i := 7) rfl)
  have fl33 : (Cond.fieldLink RX4 33 "SoupWall$State" "price" "[I").before args s = true := hts _ (List.mem_of_getElem? (l := wsX4_copyFrom) (i := 8) rfl)
  have fl36 : (Cond.fieldLink RX4 36 "SoupWall$State" "wired" "[I").before args s = true := hts _ (List.mem_of_getElem? (l := wsX4_copyFrom) (i := 9) rfl)
  have fl43 : (Cond.fieldLink RX4 43 "SoupWall$State" "lost" "I").before args s = true := hts _ (List.mem_of_getElem? (l := wsX4_copyFrom) (i := 10) rfl)
  have fl47 : (Cond.fieldLink RX4 47 "SoupWall$State" "stamps" "I").before args s = true := hts _ (List.mem_of_getElem? (l := wsX4_copyFrom) (i := 11) rfl)
  have fl50 : (Cond.fieldLink RX4 50 "SoupWall$State" "sales" "I").before args s = true := hts _ (List.mem_of_getElem? (l := wsX4_copyFrom) (i := 12) rfl)
  have fl53 : (Cond.fieldLink RX4 53 "SoupWall$State" "damp" "I").before args s = true := hts _ (List.mem_of_getElem? (l := wsX4_copyFrom) (i := 13) rfl)
  have fl56 : (Cond.fieldLink RX4 56 "SoupWall$State" "worn" "I").before args s = true := hts _ (List.mem_of_getElem? (l := wsX4_copyFrom) (i := 14) rfl)
  have fl59 : (Cond.fieldLink RX4 59 "SoupWall$State" "seed" "I").before args s = true := hts _ (List.mem_of_getElem? (l := wsX4_copyFrom) (i := 15) rfl)
  have lp2 : ∀ (k : Nat) (x2 : Int32) (it_lost : Int32) (it_stamps : Int32) (it_sales : Int32) (it_damp : Int32) (it_worn : Int32) (it_seed : Int32) (ft_tube : Nat → Int32) (ft_goods : Nat → Int32) (ft_stick : Nat → Int32) (ft_kicks : Nat → Int32) (ft_kickCount : Nat → Int32) (ft_low : Nat → Int32) (ft_high : Nat → Int32) (ft_price : Nat → Int32) (ft_wired : Nat → Int32) (H : Heap) (locs : List Loc) (ls : Array Slot) (o : Nat → Int32), fX4_copyFrom_L2 N k x2 ft_tube fs1_tube = some o → va_P D vwCl [(qt, .inr (4, [.ref qt_tube, .ref qt_goods, .ref qt_stick, .ref qt_kicks, .ref qt_kickCount, .ref qt_low, .ref qt_high, .ref qt_price, .ref qt_wired, .int it_lost, .int it_stamps, .int it_sales, .int it_damp, .int it_worn, .int it_seed])), (qs1, .inr (4, [.ref qs1_tube, .ref qs1_goods, .ref qs1_stick, .ref qs1_kicks, .ref qs1_kickCount, .ref qs1_low, .ref qs1_high, .ref qs1_price, .ref qs1_wired, .int is1_lost, .int is1_stamps, .int is1_sales, .int is1_damp, .int is1_worn, .int is1_seed])), (qt_tube, .inl (cI, 5, .inl ft_tube)), (qs1_tube, .inl (cI, 5, .inl fs1_tube)), (qt_goods, .inl (cI, 5, .inl ft_goods)), (qs1_goods, .inl (cI, 5, .inl fs1_goods)), (qt_stick, .inl (cI, 5, .inl ft_stick)), (qs1_stick, .inl (cI, 5, .inl fs1_stick)), (qt_kicks, .inl (cI, 5, .inl ft_kicks)), (qs1_kicks, .inl (cI, 5, .inl fs1_kicks)), (qt_kickCount, .inl (cI, 5, .inl ft_kickCount)), (qs1_kickCount, .inl (cI, 5, .inl fs1_kickCount)), (qt_low, .inl (cI, 5, .inl ft_low)), (qs1_low, .inl (cI, 5, .inl fs1_low)), (qt_high, .inl (cI, 5, .inl ft_high)), (qs1_high, .inl (cI, 5, .inl fs1_high)), (qt_price, .inl (cI, 5, .inl ft_price)), (qs1_price, .inl (cI, 5, .inl fs1_price)), (qt_wired, .inl (cI, 5, .inl ft_wired)), (qs1_wired, .inl (cI, 5, .inl fs1_wired))] H → va_S A s.heap H locs → lv_has ls 3 [(0, .ref qt), (1, .ref qs1), (2, .int x2)] → (∀ (e_ft_tube : Nat → Int32), e_ft_tube = o → ∀ (H : Heap) (locs : List Loc) (ls : Array Slot), va_P D vwCl [(qt, .inr (4, [.ref qt_tube, .ref qt_goods, .ref qt_stick, .ref qt_kicks, .ref qt_kickCount, .ref qt_low, .ref qt_high, .ref qt_price, .ref qt_wired, .int it_lost, .int it_stamps, .int it_sales, .int it_damp, .int it_worn, .int it_seed])), (qs1, .inr (4, [.ref qs1_tube, .ref qs1_goods, .ref qs1_stick, .ref qs1_kicks, .ref qs1_kickCount, .ref qs1_low, .ref qs1_high, .ref qs1_price, .ref qs1_wired, .int is1_lost, .int is1_stamps, .int is1_sales, .int is1_damp, .int is1_worn, .int is1_seed])), (qt_tube, .inl (cI, 5, .inl e_ft_tube)), (qs1_tube, .inl (cI, 5, .inl fs1_tube)), (qt_goods, .inl (cI, 5, .inl ft_goods)), (qs1_goods, .inl (cI, 5, .inl fs1_goods)), (qt_stick, .inl (cI, 5, .inl ft_stick)), (qs1_stick, .inl (cI, 5, .inl fs1_stick)), (qt_kicks, .inl (cI, 5, .inl ft_kicks)), (qs1_kicks, .inl (cI, 5, .inl fs1_kicks)), (qt_kickCount, .inl (cI, 5, .inl ft_kickCount)), (qs1_kickCount, .inl (cI, 5, .inl fs1_kickCount)), (qt_low, .inl (cI, 5, .inl ft_low)), (qs1_low, .inl (cI, 5, .inl fs1_low)), (qt_high, .inl (cI, 5, .inl ft_high)), (qs1_high, .inl (cI, 5, .inl fs1_high)), (qt_price, .inl (cI, 5, .inl ft_price)), (qs1_price, .inl (cI, 5, .inl fs1_price)), (qt_wired, .inl (cI, 5, .inl ft_wired)), (qs1_wired, .inl (cI, 5, .inl fs1_wired))] H → va_S A s.heap H locs → lv_has ls 3 [(0, .ref qt), (1, .ref qs1)] → W p l e ({ frames := 0, cells := 0, slots := 0, locals := 0 } : Room) s m args below meth c H locs 0 0 Z (F0 m 25 ls [])) → W p l e ({ frames := 0, cells := 0, slots := 0, locals := 0 } : Room) s m args below meth c H locs 0 0 Z (F0 m 2 ls []) := by
    intro k
    induction k with
    | zero =>
      intro x2 it_lost it_stamps it_sales it_damp it_worn it_seed ft_tube ft_goods ft_stick ft_kicks ft_kickCount ft_low ft_high ft_price ft_wired H locs ls o h
      exact nomatch (show (none : Option (Nat → Int32)) = some o from h)
    | succ k ih =>
      intro x2 it_lost it_stamps it_sales it_damp it_worn it_seed ft_tube ft_goods ft_stick ft_kicks ft_kickCount ft_low ft_high ft_price ft_wired H locs ls o h hP hS hl K
      rw [fX4_copyFrom_L2_s] at h
      refine lv_iload_n hx hb dX4_copyFrom_2 rfl (lv_at hl 2 rfl) ?_
      refine lv_iconst (v := 5) hx hb dX4_copyFrom_3 (by decide) ?_
      refine lv_icmp_ge (tgt := 25) hx hb dX4_copyFrom_4 (by decide) (fun c1 => ?_) (fun c1 => ?_)
      · replace h := if_t c1 h
        exact K ft_tube (Option.some.inj h) _ _ _ hP hS (lv_sub hl [0, 1] rfl)
      · replace h := if_f c1 h
        refine lv_aload_n hx hb dX4_copyFrom_7 rfl (lv_at hl 0 rfl) ?_
        refine va_get (ci := 4) (v := .ref qt_tube) (C := RX4) (T := TX4) (N := 15) hx hb hts hiX4 hown hK hP 0 rfl rfl 0 (by decide) fl9 (fun _ h9 => h9) rfl dX4_copyFrom_8 ?_
        refine lv_iload_n hx hb dX4_copyFrom_11 rfl (lv_at hl 2 rfl) ?_
        refine lv_aload_n hx hb dX4_copyFrom_12 rfl (lv_at hl 1 rfl) ?_
        refine va_get (ci := 4) (v := .ref qs1_tube) (C := RX4) (T := TX4) (N := 15) hx hb hts hiX4 hown hK hP 1 rfl rfl 0 (by decide) fl9 (fun _ h9 => h9) rfl dX4_copyFrom_13 ?_
        refine lv_iload_n hx hb dX4_copyFrom_16 rfl (lv_at hl 2 rfl) ?_
        replace h := ck_el h
        obtain ⟨hi2, h⟩ := h
        refine va_iald hx hb hK hP 3 0 rfl rfl hi2 dX4_copyFrom_17 ?_
        refine lv_topi (fun n3 en3 => ?_)
        replace h := lt_at en3 h
        refine va_iast hx hb hK hP (dF hD rfl) hS 2 0 rfl rfl hi2 dX4_copyFrom_18 (fun H locs hP _ hS => ?_)
        replace hP : va_P D vwCl [(qt, .inr (4, [.ref qt_tube, .ref qt_goods, .ref qt_stick, .ref qt_kicks, .ref qt_kickCount, .ref qt_low, .ref qt_high, .ref qt_price, .ref qt_wired, .int it_lost, .int it_stamps, .int it_sales, .int it_damp, .int it_worn, .int it_seed])), (qs1, .inr (4, [.ref qs1_tube, .ref qs1_goods, .ref qs1_stick, .ref qs1_kicks, .ref qs1_kickCount, .ref qs1_low, .ref qs1_high, .ref qs1_price, .ref qs1_wired, .int is1_lost, .int is1_stamps, .int is1_sales, .int is1_damp, .int is1_worn, .int is1_seed])), (qt_tube, .inl (cI, 5, .inl (upd ft_tube (Int32.toNatClampNeg x2) n3))), (qs1_tube, .inl (cI, 5, .inl fs1_tube)), (qt_goods, .inl (cI, 5, .inl ft_goods)), (qs1_goods, .inl (cI, 5, .inl fs1_goods)), (qt_stick, .inl (cI, 5, .inl ft_stick)), (qs1_stick, .inl (cI, 5, .inl fs1_stick)), (qt_kicks, .inl (cI, 5, .inl ft_kicks)), (qs1_kicks, .inl (cI, 5, .inl fs1_kicks)), (qt_kickCount, .inl (cI, 5, .inl ft_kickCount)), (qs1_kickCount, .inl (cI, 5, .inl fs1_kickCount)), (qt_low, .inl (cI, 5, .inl ft_low)), (qs1_low, .inl (cI, 5, .inl fs1_low)), (qt_high, .inl (cI, 5, .inl ft_high)), (qs1_high, .inl (cI, 5, .inl fs1_high)), (qt_price, .inl (cI, 5, .inl ft_price)), (qs1_price, .inl (cI, 5, .inl fs1_price)), (qt_wired, .inl (cI, 5, .inl ft_wired)), (qs1_wired, .inl (cI, 5, .inl fs1_wired))] H := hP
        obtain ⟨n4, en4⟩ : ∃ z : Int32, z = x2 + 1 := ⟨_, rfl⟩
        replace h := lt_at en4 h
        refine lv_iinc (v := n4) (lv' := [(2, .int n4), (0, .ref qt), (1, .ref qs1)]) hx hb dX4_copyFrom_19 hl (k := 2) rfl (by rw [en4]; rfl) (by decide) rfl (fun ls hl => ?_)
        refine lv_goto (tgt := 2) hx hb dX4_copyFrom_22 (by decide) ?_
        exact ih n4 it_lost it_stamps it_sales it_damp it_worn it_seed (upd ft_tube (Int32.toNatClampNeg x2) n3) ft_goods ft_stick ft_kicks ft_kickCount ft_low ft_high ft_price ft_wired _ _ _ o h hP hS (lv_sub hl [1, 2, 0] rfl) K
  have lp27 : ∀ (k : Nat) (x2 : Int32) (it_lost : Int32) (it_stamps : Int32) (it_sales : Int32) (it_damp : Int32) (it_worn : Int32) (it_seed : Int32) (ft_tube : Nat → Int32) (ft_goods : Nat → Int32) (ft_stick : Nat → Int32) (ft_kicks : Nat → Int32) (ft_kickCount : Nat → Int32) (ft_low : Nat → Int32) (ft_high : Nat → Int32) (ft_price : Nat → Int32) (ft_wired : Nat → Int32) (H : Heap) (locs : List Loc) (ls : Array Slot) (o : (Nat → Int32) × (Nat → Int32) × (Nat → Int32) × (Nat → Int32) × (Nat → Int32) × (Nat → Int32) × (Nat → Int32) × (Nat → Int32)), fX4_copyFrom_L27 N k x2 ft_goods fs1_goods ft_stick fs1_stick ft_kicks fs1_kicks ft_kickCount fs1_kickCount ft_low fs1_low ft_high fs1_high ft_price fs1_price ft_wired fs1_wired = some o → va_P D vwCl [(qt, .inr (4, [.ref qt_tube, .ref qt_goods, .ref qt_stick, .ref qt_kicks, .ref qt_kickCount, .ref qt_low, .ref qt_high, .ref qt_price, .ref qt_wired, .int it_lost, .int it_stamps, .int it_sales, .int it_damp, .int it_worn, .int it_seed])), (qs1, .inr (4, [.ref qs1_tube, .ref qs1_goods, .ref qs1_stick, .ref qs1_kicks, .ref qs1_kickCount, .ref qs1_low, .ref qs1_high, .ref qs1_price, .ref qs1_wired, .int is1_lost, .int is1_stamps, .int is1_sales, .int is1_damp, .int is1_worn, .int is1_seed])), (qt_tube, .inl (cI, 5, .inl ft_tube)), (qs1_tube, .inl (cI, 5, .inl fs1_tube)), (qt_goods, .inl (cI, 5, .inl ft_goods)), (qs1_goods, .inl (cI, 5, .inl fs1_goods)), (qt_stick, .inl (cI, 5, .inl ft_stick)), (qs1_stick, .inl (cI, 5, .inl fs1_stick)), (qt_kicks, .inl (cI, 5, .inl ft_kicks)), (qs1_kicks, .inl (cI, 5, .inl fs1_kicks)), (qt_kickCount, .inl (cI, 5, .inl ft_kickCount)), (qs1_kickCount, .inl (cI, 5, .inl fs1_kickCount)), (qt_low, .inl (cI, 5, .inl ft_low)), (qs1_low, .inl (cI, 5, .inl fs1_low)), (qt_high, .inl (cI, 5, .inl ft_high)), (qs1_high, .inl (cI, 5, .inl fs1_high)), (qt_price, .inl (cI, 5, .inl ft_price)), (qs1_price, .inl (cI, 5, .inl fs1_price)), (qt_wired, .inl (cI, 5, .inl ft_wired)), (qs1_wired, .inl (cI, 5, .inl fs1_wired))] H → va_S A s.heap H locs → lv_has ls 3 [(0, .ref qt), (1, .ref qs1), (2, .int x2)] → (∀ (e_ft_goods : Nat → Int32) (e_ft_stick : Nat → Int32) (e_ft_kicks : Nat → Int32) (e_ft_kickCount : Nat → Int32) (e_ft_low : Nat → Int32) (e_ft_high : Nat → Int32) (e_ft_price : Nat → Int32) (e_ft_wired : Nat → Int32), (e_ft_goods, e_ft_stick, e_ft_kicks, e_ft_kickCount, e_ft_low, e_ft_high, e_ft_price, e_ft_wired) = o → ∀ (H : Heap) (locs : List Loc) (ls : Array Slot), va_P D vwCl [(qt, .inr (4, [.ref qt_tube, .ref qt_goods, .ref qt_stick, .ref qt_kicks, .ref qt_kickCount, .ref qt_low, .ref qt_high, .ref qt_price, .ref qt_wired, .int it_lost, .int it_stamps, .int it_sales, .int it_damp, .int it_worn, .int it_seed])), (qs1, .inr (4, [.ref qs1_tube, .ref qs1_goods, .ref qs1_stick, .ref qs1_kicks, .ref qs1_kickCount, .ref qs1_low, .ref qs1_high, .ref qs1_price, .ref qs1_wired, .int is1_lost, .int is1_stamps, .int is1_sales, .int is1_damp, .int is1_worn, .int is1_seed])), (qt_tube, .inl (cI, 5, .inl ft_tube)), (qs1_tube, .inl (cI, 5, .inl fs1_tube)), (qt_goods, .inl (cI, 5, .inl e_ft_goods)), (qs1_goods, .inl (cI, 5, .inl fs1_goods)), (qt_stick, .inl (cI, 5, .inl e_ft_stick)), (qs1_stick, .inl (cI, 5, .inl fs1_stick)), (qt_kicks, .inl (cI, 5, .inl e_ft_kicks)), (qs1_kicks, .inl (cI, 5, .inl fs1_kicks)), (qt_kickCount, .inl (cI, 5, .inl e_ft_kickCount)), (qs1_kickCount, .inl (cI, 5, .inl fs1_kickCount)), (qt_low, .inl (cI, 5, .inl e_ft_low)), (qs1_low, .inl (cI, 5, .inl fs1_low)), (qt_high, .inl (cI, 5, .inl e_ft_high)), (qs1_high, .inl (cI, 5, .inl fs1_high)), (qt_price, .inl (cI, 5, .inl e_ft_price)), (qs1_price, .inl (cI, 5, .inl fs1_price)), (qt_wired, .inl (cI, 5, .inl e_ft_wired)), (qs1_wired, .inl (cI, 5, .inl fs1_wired))] H → va_S A s.heap H locs → lv_has ls 3 [(0, .ref qt), (1, .ref qs1)] → W p l e ({ frames := 0, cells := 0, slots := 0, locals := 0 } : Room) s m args below meth c H locs 0 0 Z (F0 m 134 ls [])) → W p l e ({ frames := 0, cells := 0, slots := 0, locals := 0 } : Room) s m args below meth c H locs 0 0 Z (F0 m 27 ls []) := by
    intro k
    induction k with
    | zero =>
      intro x2 it_lost it_stamps it_sales it_damp it_worn it_seed ft_tube ft_goods ft_stick ft_kicks ft_kickCount ft_low ft_high ft_price ft_wired H locs ls o h
      exact nomatch (show (none : Option ((Nat → Int32) × (Nat → Int32) × (Nat → Int32) × (Nat → Int32) × (Nat → Int32) × (Nat → Int32) × (Nat → Int32) × (Nat → Int32))) = some o from h)
    | succ k ih =>
      intro x2 it_lost it_stamps it_sales it_damp it_worn it_seed ft_tube ft_goods ft_stick ft_kicks ft_kickCount ft_low ft_high ft_price ft_wired H locs ls o h hP hS hl K
      rw [fX4_copyFrom_L27_s] at h
      refine lv_iload_n hx hb dX4_copyFrom_27 rfl (lv_at hl 2 rfl) ?_
      refine lv_iconst (v := 5) hx hb dX4_copyFrom_28 (by decide) ?_
      refine lv_icmp_ge (tgt := 134) hx hb dX4_copyFrom_29 (by decide) (fun c5 => ?_) (fun c5 => ?_)
      · replace h := if_t c5 h
        exact K ft_goods ft_stick ft_kicks ft_kickCount ft_low ft_high ft_price ft_wired (Option.some.inj h) _ _ _ hP hS (lv_sub hl [0, 1] rfl)
      · replace h := if_f c5 h
        refine lv_aload_n hx hb dX4_copyFrom_32 rfl (lv_at hl 0 rfl) ?_
        refine va_get (ci := 4) (v := .ref qt_goods) (C := RX4) (T := TX4) (N := 15) hx hb hts hiX4 hown hK hP 0 rfl rfl 1 (by decide) fl15 (fun _ h9 => h9) rfl dX4_copyFrom_33 ?_
        refine lv_iload_n hx hb dX4_copyFrom_36 rfl (lv_at hl 2 rfl) ?_
        refine lv_aload_n hx hb dX4_copyFrom_37 rfl (lv_at hl 1 rfl) ?_
        refine va_get (ci := 4) (v := .ref qs1_goods) (C := RX4) (T := TX4) (N := 15) hx hb hts hiX4 hown hK hP 1 rfl rfl 1 (by decide) fl15 (fun _ h9 => h9) rfl dX4_copyFrom_38 ?_
        refine lv_iload_n hx hb dX4_copyFrom_41 rfl (lv_at hl 2 rfl) ?_
        replace h := ck_el h
        obtain ⟨hi6, h⟩ := h
        refine va_iald hx hb hK hP 5 0 rfl rfl hi6 dX4_copyFrom_42 ?_
        refine lv_topi (fun n7 en7 => ?_)
        replace h := lt_at en7 h
        refine va_iast hx hb hK hP (dF hD rfl) hS 4 0 rfl rfl hi6 dX4_copyFrom_43 (fun H locs hP _ hS => ?_)
        replace hP : va_P D vwCl [(qt, .inr (4, [.ref qt_tube, .ref qt_goods, .ref qt_stick, .ref qt_kicks, .ref qt_kickCount, .ref qt_low, .ref qt_high, .ref qt_price, .ref qt_wired, .int it_lost, .int it_stamps, .int it_sales, .int it_damp, .int it_worn, .int it_seed])), (qs1, .inr (4, [.ref qs1_tube, .ref qs1_goods, .ref qs1_stick, .ref qs1_kicks, .ref qs1_kickCount, .ref qs1_low, .ref qs1_high, .ref qs1_price, .ref qs1_wired, .int is1_lost, .int is1_stamps, .int is1_sales, .int is1_damp, .int is1_worn, .int is1_seed])), (qt_tube, .inl (cI, 5, .inl ft_tube)), (qs1_tube, .inl (cI, 5, .inl fs1_tube)), (qt_goods, .inl (cI, 5, .inl (upd ft_goods (Int32.toNatClampNeg x2) n7))), (qs1_goods, .inl (cI, 5, .inl fs1_goods)), (qt_stick, .inl (cI, 5, .inl ft_stick)), (qs1_stick, .inl (cI, 5, .inl fs1_stick)), (qt_kicks, .inl (cI, 5, .inl ft_kicks)), (qs1_kicks, .inl (cI, 5, .inl fs1_kicks)), (qt_kickCount, .inl (cI, 5, .inl ft_kickCount)), (qs1_kickCount, .inl (cI, 5, .inl fs1_kickCount)), (qt_low, .inl (cI, 5, .inl ft_low)), (qs1_low, .inl (cI, 5, .inl fs1_low)), (qt_high, .inl (cI, 5, .inl ft_high)), (qs1_high, .inl (cI, 5, .inl fs1_high)), (qt_price, .inl (cI, 5, .inl ft_price)), (qs1_price, .inl (cI, 5, .inl fs1_price)), (qt_wired, .inl (cI, 5, .inl ft_wired)), (qs1_wired, .inl (cI, 5, .inl fs1_wired))] H := hP
        refine lv_aload_n hx hb dX4_copyFrom_44 rfl (lv_at hl 0 rfl) ?_
        refine va_get (ci := 4) (v := .ref qt_stick) (C := RX4) (T := TX4) (N := 15) hx hb hts hiX4 hown hK hP 0 rfl rfl 2 (by decide) fl18 (fun _ h9 => h9) rfl dX4_copyFrom_45 ?_
        refine lv_iload_n hx hb dX4_copyFrom_48 rfl (lv_at hl 2 rfl) ?_
        refine lv_aload_n hx hb dX4_copyFrom_49 rfl (lv_at hl 1 rfl) ?_
        refine va_get (ci := 4) (v := .ref qs1_stick) (C := RX4) (T := TX4) (N := 15) hx hb hts hiX4 hown hK hP 1 rfl rfl 2 (by decide) fl18 (fun _ h9 => h9) rfl dX4_copyFrom_50 ?_
        refine lv_iload_n hx hb dX4_copyFrom_53 rfl (lv_at hl 2 rfl) ?_
        refine va_iald hx hb hK hP 7 0 rfl rfl hi6 dX4_copyFrom_54 ?_
        refine lv_topi (fun n8 en8 => ?_)
        replace h := lt_at en8 h
        refine va_iast hx hb hK hP (dF hD rfl) hS 6 0 rfl rfl hi6 dX4_copyFrom_55 (fun H locs hP _ hS => ?_)
        replace hP : va_P D vwCl [(qt, .inr (4, [.ref qt_tube, .ref qt_goods, .ref qt_stick, .ref qt_kicks, .ref qt_kickCount, .ref qt_low, .ref qt_high, .ref qt_price, .ref qt_wired, .int it_lost, .int it_stamps, .int it_sales, .int it_damp, .int it_worn, .int it_seed])), (qs1, .inr (4, [.ref qs1_tube, .ref qs1_goods, .ref qs1_stick, .ref qs1_kicks, .ref qs1_kickCount, .ref qs1_low, .ref qs1_high, .ref qs1_price, .ref qs1_wired, .int is1_lost, .int is1_stamps, .int is1_sales, .int is1_damp, .int is1_worn, .int is1_seed])), (qt_tube, .inl (cI, 5, .inl ft_tube)), (qs1_tube, .inl (cI, 5, .inl fs1_tube)), (qt_goods, .inl (cI, 5, .inl (upd ft_goods (Int32.toNatClampNeg x2) n7))), (qs1_goods, .inl (cI, 5, .inl fs1_goods)), (qt_stick, .inl (cI, 5, .inl (upd ft_stick (Int32.toNatClampNeg x2) n8))), (qs1_stick, .inl (cI, 5, .inl fs1_stick)), (qt_kicks, .inl (cI, 5, .inl ft_kicks)), (qs1_kicks, .inl (cI, 5, .inl fs1_kicks)), (qt_kickCount, .inl (cI, 5, .inl ft_kickCount)), (qs1_kickCount, .inl (cI, 5, .inl fs1_kickCount)), (qt_low, .inl (cI, 5, .inl ft_low)), (qs1_low, .inl (cI, 5, .inl fs1_low)), (qt_high, .inl (cI, 5, .inl ft_high)), (qs1_high, .inl (cI, 5, .inl fs1_high)), (qt_price, .inl (cI, 5, .inl ft_price)), (qs1_price, .inl (cI, 5, .inl fs1_price)), (qt_wired, .inl (cI, 5, .inl ft_wired)), (qs1_wired, .inl (cI, 5, .inl fs1_wired))] H := hP
        refine lv_aload_n hx hb dX4_copyFrom_56 rfl (lv_at hl 0 rfl) ?_
        refine va_get (ci := 4) (v := .ref qt_kicks) (C := RX4) (T := TX4) (N := 15) hx hb hts hiX4 hown hK hP 0 rfl rfl 3 (by decide) fl21 (fun _ h9 => h9) rfl dX4_copyFrom_57 ?_
        refine lv_iload_n hx hb dX4_copyFrom_60 rfl (lv_at hl 2 rfl) ?_
        refine lv_aload_n hx hb dX4_copyFrom_61 rfl (lv_at hl 1 rfl) ?_
        refine va_get (ci := 4) (v := .ref qs1_kicks) (C := RX4) (T := TX4) (N := 15) hx hb hts hiX4 hown hK hP 1 rfl rfl 3 (by decide) fl21 (fun _ h9 => h9) rfl dX4_copyFrom_62 ?_
        refine lv_iload_n hx hb dX4_copyFrom_65 rfl (lv_at hl 2 rfl) ?_
        refine va_iald hx hb hK hP 9 0 rfl rfl hi6 dX4_copyFrom_66 ?_
        refine lv_topi (fun n9 en9 => ?_)
        replace h := lt_at en9 h
        refine va_iast hx hb hK hP (dF hD rfl) hS 8 0 rfl rfl hi6 dX4_copyFrom_67 (fun H locs hP _ hS => ?_)
        replace hP : va_P D vwCl [(qt, .inr (4, [.ref qt_tube, .ref qt_goods, .ref qt_stick, .ref qt_kicks, .ref qt_kickCount, .ref qt_low, .ref qt_high, .ref qt_price, .ref qt_wired, .int it_lost, .int it_stamps, .int it_sales, .int it_damp, .int it_worn, .int it_seed])), (qs1, .inr (4, [.ref qs1_tube, .ref qs1_goods, .ref qs1_stick, .ref qs1_kicks, .ref qs1_kickCount, .ref qs1_low, .ref qs1_high, .ref qs1_price, .ref qs1_wired, .int is1_lost, .int is1_stamps, .int is1_sales, .int is1_damp, .int is1_worn, .int is1_seed])), (qt_tube, .inl (cI, 5, .inl ft_tube)), (qs1_tube, .inl (cI, 5, .inl fs1_tube)), (qt_goods, .inl (cI, 5, .inl (upd ft_goods (Int32.toNatClampNeg x2) n7))), (qs1_goods, .inl (cI, 5, .inl fs1_goods)), (qt_stick, .inl (cI, 5, .inl (upd ft_stick (Int32.toNatClampNeg x2) n8))), (qs1_stick, .inl (cI, 5, .inl fs1_stick)), (qt_kicks, .inl (cI, 5, .inl (upd ft_kicks (Int32.toNatClampNeg x2) n9))), (qs1_kicks, .inl (cI, 5, .inl fs1_kicks)), (qt_kickCount, .inl (cI, 5, .inl ft_kickCount)), (qs1_kickCount, .inl (cI, 5, .inl fs1_kickCount)), (qt_low, .inl (cI, 5, .inl ft_low)), (qs1_low, .inl (cI, 5, .inl fs1_low)), (qt_high, .inl (cI, 5, .inl ft_high)), (qs1_high, .inl (cI, 5, .inl fs1_high)), (qt_price, .inl (cI, 5, .inl ft_price)), (qs1_price, .inl (cI, 5, .inl fs1_price)), (qt_wired, .inl (cI, 5, .inl ft_wired)), (qs1_wired, .inl (cI, 5, .inl fs1_wired))] H := hP
        refine lv_aload_n hx hb dX4_copyFrom_68 rfl (lv_at hl 0 rfl) ?_
        refine va_get (ci := 4) (v := .ref qt_kickCount) (C := RX4) (T := TX4) (N := 15) hx hb hts hiX4 hown hK hP 0 rfl rfl 4 (by decide) fl24 (fun _ h9 => h9) rfl dX4_copyFrom_69 ?_
        refine lv_iload_n hx hb dX4_copyFrom_72 rfl (lv_at hl 2 rfl) ?_
        refine lv_aload_n hx hb dX4_copyFrom_73 rfl (lv_at hl 1 rfl) ?_
        refine va_get (ci := 4) (v := .ref qs1_kickCount) (C := RX4) (T := TX4) (N := 15) hx hb hts hiX4 hown hK hP 1 rfl rfl 4 (by decide) fl24 (fun _ h9 => h9) rfl dX4_copyFrom_74 ?_
        refine lv_iload_n hx hb dX4_copyFrom_77 rfl (lv_at hl 2 rfl) ?_
        refine va_iald hx hb hK hP 11 0 rfl rfl hi6 dX4_copyFrom_78 ?_
        refine lv_topi (fun n10 en10 => ?_)
        replace h := lt_at en10 h
        refine va_iast hx hb hK hP (dF hD rfl) hS 10 0 rfl rfl hi6 dX4_copyFrom_79 (fun H locs hP _ hS => ?_)
        replace hP : va_P D vwCl [(qt, .inr (4, [.ref qt_tube, .ref qt_goods, .ref qt_stick, .ref qt_kicks, .ref qt_kickCount, .ref qt_low, .ref qt_high, .ref qt_price, .ref qt_wired, .int it_lost, .int it_stamps, .int it_sales, .int it_damp, .int it_worn, .int it_seed])), (qs1, .inr (4, [.ref qs1_tube, .ref qs1_goods, .ref qs1_stick, .ref qs1_kicks, .ref qs1_kickCount, .ref qs1_low, .ref qs1_high, .ref qs1_price, .ref qs1_wired, .int is1_lost, .int is1_stamps, .int is1_sales, .int is1_damp, .int is1_worn, .int is1_seed])), (qt_tube, .inl (cI, 5, .inl ft_tube)), (qs1_tube, .inl (cI, 5, .inl fs1_tube)), (qt_goods, .inl (cI, 5, .inl (upd ft_goods (Int32.toNatClampNeg x2) n7))), (qs1_goods, .inl (cI, 5, .inl fs1_goods)), (qt_stick, .inl (cI, 5, .inl (upd ft_stick (Int32.toNatClampNeg x2) n8))), (qs1_stick, .inl (cI, 5, .inl fs1_stick)), (qt_kicks, .inl (cI, 5, .inl (upd ft_kicks (Int32.toNatClampNeg x2) n9))), (qs1_kicks, .inl (cI, 5, .inl fs1_kicks)), (qt_kickCount, .inl (cI, 5, .inl (upd ft_kickCount (Int32.toNatClampNeg x2) n10))), (qs1_kickCount, .inl (cI, 5, .inl fs1_kickCount)), (qt_low, .inl (cI, 5, .inl ft_low)), (qs1_low, .inl (cI, 5, .inl fs1_low)), (qt_high, .inl (cI, 5, .inl ft_high)), (qs1_high, .inl (cI, 5, .inl fs1_high)), (qt_price, .inl (cI, 5, .inl ft_price)), (qs1_price, .inl (cI, 5, .inl fs1_price)), (qt_wired, .inl (cI, 5, .inl ft_wired)), (qs1_wired, .inl (cI, 5, .inl fs1_wired))] H := hP
        refine lv_aload_n hx hb dX4_copyFrom_80 rfl (lv_at hl 0 rfl) ?_
        refine va_get (ci := 4) (v := .ref qt_low) (C := RX4) (T := TX4) (N := 15) hx hb hts hiX4 hown hK hP 0 rfl rfl 5 (by decide) fl27 (fun _ h9 => h9) rfl dX4_copyFrom_81 ?_
        refine lv_iload_n hx hb dX4_copyFrom_84 rfl (lv_at hl 2 rfl) ?_
        refine lv_aload_n hx hb dX4_copyFrom_85 rfl (lv_at hl 1 rfl) ?_
        refine va_get (ci := 4) (v := .ref qs1_low) (C := RX4) (T := TX4) (N := 15) hx hb hts hiX4 hown hK hP 1 rfl rfl 5 (by decide) fl27 (fun _ h9 => h9) rfl dX4_copyFrom_86 ?_
        refine lv_iload_n hx hb dX4_copyFrom_89 rfl (lv_at hl 2 rfl) ?_
        refine va_iald hx hb hK hP 13 0 rfl rfl hi6 dX4_copyFrom_90 ?_
        refine lv_topi (fun n11 en11 => ?_)
        replace h := lt_at en11 h
        refine va_iast hx hb hK hP (dF hD rfl) hS 12 0 rfl rfl hi6 dX4_copyFrom_91 (fun H locs hP _ hS => ?_)
        replace hP : va_P D vwCl [(qt, .inr (4, [.ref qt_tube, .ref qt_goods, .ref qt_stick, .ref qt_kicks, .ref qt_kickCount, .ref qt_low, .ref qt_high, .ref qt_price, .ref qt_wired, .int it_lost, .int it_stamps, .int it_sales, .int it_damp, .int it_worn, .int it_seed])), (qs1, .inr (4, [.ref qs1_tube, .ref qs1_goods, .ref qs1_stick, .ref qs1_kicks, .ref qs1_kickCount, .ref qs1_low, .ref qs1_high, .ref qs1_price, .ref qs1_wired, .int is1_lost, .int is1_stamps, .int is1_sales, .int is1_damp, .int is1_worn, .int is1_seed])), (qt_tube, .inl (cI, 5, .inl ft_tube)), (qs1_tube, .inl (cI, 5, .inl fs1_tube)), (qt_goods, .inl (cI, 5, .inl (upd ft_goods (Int32.toNatClampNeg x2) n7))), (qs1_goods, .inl (cI, 5, .inl fs1_goods)), (qt_stick, .inl (cI, 5, .inl (upd ft_stick (Int32.toNatClampNeg x2) n8))), (qs1_stick, .inl (cI, 5, .inl fs1_stick)), (qt_kicks, .inl (cI, 5, .inl (upd ft_kicks (Int32.toNatClampNeg x2) n9))), (qs1_kicks, .inl (cI, 5, .inl fs1_kicks)), (qt_kickCount, .inl (cI, 5, .inl (upd ft_kickCount (Int32.toNatClampNeg x2) n10))), (qs1_kickCount, .inl (cI, 5, .inl fs1_kickCount)), (qt_low, .inl (cI, 5, .inl (upd ft_low (Int32.toNatClampNeg x2) n11))), (qs1_low, .inl (cI, 5, .inl fs1_low)), (qt_high, .inl (cI, 5, .inl ft_high)), (qs1_high, .inl (cI, 5, .inl fs1_high)), (qt_price, .inl (cI, 5, .inl ft_price)), (qs1_price, .inl (cI, 5, .inl fs1_price)), (qt_wired, .inl (cI, 5, .inl ft_wired)), (qs1_wired, .inl (cI, 5, .inl fs1_wired))] H := hP
        refine lv_aload_n hx hb dX4_copyFrom_92 rfl (lv_at hl 0 rfl) ?_
        refine va_get (ci := 4) (v := .ref qt_high) (C := RX4) (T := TX4) (N := 15) hx hb hts hiX4 hown hK hP 0 rfl rfl 6 (by decide) fl30 (fun _ h9 => h9) rfl dX4_copyFrom_93 ?_
        refine lv_iload_n hx hb dX4_copyFrom_96 rfl (lv_at hl 2 rfl) ?_
        refine lv_aload_n hx hb dX4_copyFrom_97 rfl (lv_at hl 1 rfl) ?_
        refine va_get (ci := 4) (v := .ref qs1_high) (C := RX4) (T := TX4) (N := 15) hx hb hts hiX4 hown hK hP 1 rfl rfl 6 (by decide) fl30 (fun _ h9 => h9) rfl dX4_copyFrom_98 ?_
        refine lv_iload_n hx hb dX4_copyFrom_101 rfl (lv_at hl 2 rfl) ?_
        refine va_iald hx hb hK hP 15 0 rfl rfl hi6 dX4_copyFrom_102 ?_
        refine lv_topi (fun n12 en12 => ?_)
        replace h := lt_at en12 h
        refine va_iast hx hb hK hP (dF hD rfl) hS 14 0 rfl rfl hi6 dX4_copyFrom_103 (fun H locs hP _ hS => ?_)
        replace hP : va_P D vwCl [(qt, .inr (4, [.ref qt_tube, .ref qt_goods, .ref qt_stick, .ref qt_kicks, .ref qt_kickCount, .ref qt_low, .ref qt_high, .ref qt_price, .ref qt_wired, .int it_lost, .int it_stamps, .int it_sales, .int it_damp, .int it_worn, .int it_seed])), (qs1, .inr (4, [.ref qs1_tube, .ref qs1_goods, .ref qs1_stick, .ref qs1_kicks, .ref qs1_kickCount, .ref qs1_low, .ref qs1_high, .ref qs1_price, .ref qs1_wired, .int is1_lost, .int is1_stamps, .int is1_sales, .int is1_damp, .int is1_worn, .int is1_seed])), (qt_tube, .inl (cI, 5, .inl ft_tube)), (qs1_tube, .inl (cI, 5, .inl fs1_tube)), (qt_goods, .inl (cI, 5, .inl (upd ft_goods (Int32.toNatClampNeg x2) n7))), (qs1_goods, .inl (cI, 5, .inl fs1_goods)), (qt_stick, .inl (cI, 5, .inl (upd ft_stick (Int32.toNatClampNeg x2) n8))), (qs1_stick, .inl (cI, 5, .inl fs1_stick)), (qt_kicks, .inl (cI, 5, .inl (upd ft_kicks (Int32.toNatClampNeg x2) n9))), (qs1_kicks, .inl (cI, 5, .inl fs1_kicks)), (qt_kickCount, .inl (cI, 5, .inl (upd ft_kickCount (Int32.toNatClampNeg x2) n10))), (qs1_kickCount, .inl (cI, 5, .inl fs1_kickCount)), (qt_low, .inl (cI, 5, .inl (upd ft_low (Int32.toNatClampNeg x2) n11))), (qs1_low, .inl (cI, 5, .inl fs1_low)), (qt_high, .inl (cI, 5, .inl (upd ft_high (Int32.toNatClampNeg x2) n12))), (qs1_high, .inl (cI, 5, .inl fs1_high)), (qt_price, .inl (cI, 5, .inl ft_price)), (qs1_price, .inl (cI, 5, .inl fs1_price)), (qt_wired, .inl (cI, 5, .inl ft_wired)), (qs1_wired, .inl (cI, 5, .inl fs1_wired))] H := hP
        refine lv_aload_n hx hb dX4_copyFrom_104 rfl (lv_at hl 0 rfl) ?_
        refine va_get (ci := 4) (v := .ref qt_price) (C := RX4) (T := TX4) (N := 15) hx hb hts hiX4 hown hK hP 0 rfl rfl 7 (by decide) fl33 (fun _ h9 => h9) rfl dX4_copyFrom_105 ?_
        refine lv_iload_n hx hb dX4_copyFrom_108 rfl (lv_at hl 2 rfl) ?_
        refine lv_aload_n hx hb dX4_copyFrom_109 rfl (lv_at hl 1 rfl) ?_
        refine va_get (ci := 4) (v := .ref qs1_price) (C := RX4) (T := TX4) (N := 15) hx hb hts hiX4 hown hK hP 1 rfl rfl 7 (by decide) fl33 (fun _ h9 => h9) rfl dX4_copyFrom_110 ?_
        refine lv_iload_n hx hb dX4_copyFrom_113 rfl (lv_at hl 2 rfl) ?_
        refine va_iald hx hb hK hP 17 0 rfl rfl hi6 dX4_copyFrom_114 ?_
        refine lv_topi (fun n13 en13 => ?_)
        replace h := lt_at en13 h
        refine va_iast hx hb hK hP (dF hD rfl) hS 16 0 rfl rfl hi6 dX4_copyFrom_115 (fun H locs hP _ hS => ?_)
        replace hP : va_P D vwCl [(qt, .inr (4, [.ref qt_tube, .ref qt_goods, .ref qt_stick, .ref qt_kicks, .ref qt_kickCount, .ref qt_low, .ref qt_high, .ref qt_price, .ref qt_wired, .int it_lost, .int it_stamps, .int it_sales, .int it_damp, .int it_worn, .int it_seed])), (qs1, .inr (4, [.ref qs1_tube, .ref qs1_goods, .ref qs1_stick, .ref qs1_kicks, .ref qs1_kickCount, .ref qs1_low, .ref qs1_high, .ref qs1_price, .ref qs1_wired, .int is1_lost, .int is1_stamps, .int is1_sales, .int is1_damp, .int is1_worn, .int is1_seed])), (qt_tube, .inl (cI, 5, .inl ft_tube)), (qs1_tube, .inl (cI, 5, .inl fs1_tube)), (qt_goods, .inl (cI, 5, .inl (upd ft_goods (Int32.toNatClampNeg x2) n7))), (qs1_goods, .inl (cI, 5, .inl fs1_goods)), (qt_stick, .inl (cI, 5, .inl (upd ft_stick (Int32.toNatClampNeg x2) n8))), (qs1_stick, .inl (cI, 5, .inl fs1_stick)), (qt_kicks, .inl (cI, 5, .inl (upd ft_kicks (Int32.toNatClampNeg x2) n9))), (qs1_kicks, .inl (cI, 5, .inl fs1_kicks)), (qt_kickCount, .inl (cI, 5, .inl (upd ft_kickCount (Int32.toNatClampNeg x2) n10))), (qs1_kickCount, .inl (cI, 5, .inl fs1_kickCount)), (qt_low, .inl (cI, 5, .inl (upd ft_low (Int32.toNatClampNeg x2) n11))), (qs1_low, .inl (cI, 5, .inl fs1_low)), (qt_high, .inl (cI, 5, .inl (upd ft_high (Int32.toNatClampNeg x2) n12))), (qs1_high, .inl (cI, 5, .inl fs1_high)), (qt_price, .inl (cI, 5, .inl (upd ft_price (Int32.toNatClampNeg x2) n13))), (qs1_price, .inl (cI, 5, .inl fs1_price)), (qt_wired, .inl (cI, 5, .inl ft_wired)), (qs1_wired, .inl (cI, 5, .inl fs1_wired))] H := hP
        refine lv_aload_n hx hb dX4_copyFrom_116 rfl (lv_at hl 0 rfl) ?_
        refine va_get (ci := 4) (v := .ref qt_wired) (C := RX4) (T := TX4) (N := 15) hx hb hts hiX4 hown hK hP 0 rfl rfl 8 (by decide) fl36 (fun _ h9 => h9) rfl dX4_copyFrom_117 ?_
        refine lv_iload_n hx hb dX4_copyFrom_120 rfl (lv_at hl 2 rfl) ?_
        refine lv_aload_n hx hb dX4_copyFrom_121 rfl (lv_at hl 1 rfl) ?_
        refine va_get (ci := 4) (v := .ref qs1_wired) (C := RX4) (T := TX4) (N := 15) hx hb hts hiX4 hown hK hP 1 rfl rfl 8 (by decide) fl36 (fun _ h9 => h9) rfl dX4_copyFrom_122 ?_
        refine lv_iload_n hx hb dX4_copyFrom_125 rfl (lv_at hl 2 rfl) ?_
        refine va_iald hx hb hK hP 19 0 rfl rfl hi6 dX4_copyFrom_126 ?_
        refine lv_topi (fun n14 en14 => ?_)
        replace h := lt_at en14 h
        refine va_iast hx hb hK hP (dF hD rfl) hS 18 0 rfl rfl hi6 dX4_copyFrom_127 (fun H locs hP _ hS => ?_)
        replace hP : va_P D vwCl [(qt, .inr (4, [.ref qt_tube, .ref qt_goods, .ref qt_stick, .ref qt_kicks, .ref qt_kickCount, .ref qt_low, .ref qt_high, .ref qt_price, .ref qt_wired, .int it_lost, .int it_stamps, .int it_sales, .int it_damp, .int it_worn, .int it_seed])), (qs1, .inr (4, [.ref qs1_tube, .ref qs1_goods, .ref qs1_stick, .ref qs1_kicks, .ref qs1_kickCount, .ref qs1_low, .ref qs1_high, .ref qs1_price, .ref qs1_wired, .int is1_lost, .int is1_stamps, .int is1_sales, .int is1_damp, .int is1_worn, .int is1_seed])), (qt_tube, .inl (cI, 5, .inl ft_tube)), (qs1_tube, .inl (cI, 5, .inl fs1_tube)), (qt_goods, .inl (cI, 5, .inl (upd ft_goods (Int32.toNatClampNeg x2) n7))), (qs1_goods, .inl (cI, 5, .inl fs1_goods)), (qt_stick, .inl (cI, 5, .inl (upd ft_stick (Int32.toNatClampNeg x2) n8))), (qs1_stick, .inl (cI, 5, .inl fs1_stick)), (qt_kicks, .inl (cI, 5, .inl (upd ft_kicks (Int32.toNatClampNeg x2) n9))), (qs1_kicks, .inl (cI, 5, .inl fs1_kicks)), (qt_kickCount, .inl (cI, 5, .inl (upd ft_kickCount (Int32.toNatClampNeg x2) n10))), (qs1_kickCount, .inl (cI, 5, .inl fs1_kickCount)), (qt_low, .inl (cI, 5, .inl (upd ft_low (Int32.toNatClampNeg x2) n11))), (qs1_low, .inl (cI, 5, .inl fs1_low)), (qt_high, .inl (cI, 5, .inl (upd ft_high (Int32.toNatClampNeg x2) n12))), (qs1_high, .inl (cI, 5, .inl fs1_high)), (qt_price, .inl (cI, 5, .inl (upd ft_price (Int32.toNatClampNeg x2) n13))), (qs1_price, .inl (cI, 5, .inl fs1_price)), (qt_wired, .inl (cI, 5, .inl (upd ft_wired (Int32.toNatClampNeg x2) n14))), (qs1_wired, .inl (cI, 5, .inl fs1_wired))] H := hP
        obtain ⟨n15, en15⟩ : ∃ z : Int32, z = x2 + 1 := ⟨_, rfl⟩
        replace h := lt_at en15 h
        refine lv_iinc (v := n15) (lv' := [(2, .int n15), (0, .ref qt), (1, .ref qs1)]) hx hb dX4_copyFrom_128 hl (k := 2) rfl (by rw [en15]; rfl) (by decide) rfl (fun ls hl => ?_)
        refine lv_goto (tgt := 27) hx hb dX4_copyFrom_131 (by decide) ?_
        exact ih n15 it_lost it_stamps it_sales it_damp it_worn it_seed ft_tube (upd ft_goods (Int32.toNatClampNeg x2) n7) (upd ft_stick (Int32.toNatClampNeg x2) n8) (upd ft_kicks (Int32.toNatClampNeg x2) n9) (upd ft_kickCount (Int32.toNatClampNeg x2) n10) (upd ft_low (Int32.toNatClampNeg x2) n11) (upd ft_high (Int32.toNatClampNeg x2) n12) (upd ft_price (Int32.toNatClampNeg x2) n13) (upd ft_wired (Int32.toNatClampNeg x2) n14) _ _ _ o h hP hS (lv_sub hl [1, 2, 0] rfl) K
  unfold fX4_copyFrom at h
  refine lv_iconst (v := 0) hx hb dX4_copyFrom_0 (by decide) ?_
  refine lv_istore_n (lv' := [(2, .int 0), (0, .ref qt), (1, .ref qs1)]) hx hb dX4_copyFrom_1 rfl hl (by decide) rfl (fun ls hl => ?_)
  replace h := bd_el h
  obtain ⟨o16, ho16, h⟩ := h
  refine lp2 N 0 it_lost it_stamps it_sales it_damp it_worn it_seed ft_tube ft_goods ft_stick ft_kicks ft_kickCount ft_low ft_high ft_price ft_wired _ _ _ o16 ho16 hP hS (lv_sub hl [1, 2, 0] rfl) (fun g17 eo H locs ls hP hS hl => ?_)
  subst eo
  refine lv_iconst (v := 0) hx hb dX4_copyFrom_25 (by decide) ?_
  refine lv_istore_n (lv' := [(2, .int 0), (0, .ref qt), (1, .ref qs1)]) hx hb dX4_copyFrom_26 rfl hl (by decide) rfl (fun ls hl => ?_)
  replace h := bd_el h
  obtain ⟨o18, ho18, h⟩ := h
  refine lp27 N 0 it_lost it_stamps it_sales it_damp it_worn it_seed g17 ft_goods ft_stick ft_kicks ft_kickCount ft_low ft_high ft_price ft_wired _ _ _ o18 ho18 hP hS (lv_sub hl [1, 2, 0] rfl) (fun g19 g20 g21 g22 g23 g24 g25 g26 eo H locs ls hP hS hl => ?_)
  subst eo
  refine lv_aload_n hx hb dX4_copyFrom_134 rfl (lv_at hl 0 rfl) ?_
  refine lv_aload_n hx hb dX4_copyFrom_135 rfl (lv_at hl 1 rfl) ?_
  refine va_get (ci := 4) (v := .int is1_lost) (C := RX4) (T := TX4) (N := 15) hx hb hts hiX4 hown hK hP 1 rfl rfl 9 (by decide) fl43 (fun _ h9 => h9) rfl dX4_copyFrom_136 ?_
  refine va_put (ci := 4) (v := .int is1_lost) (ty := .int) (C := RX4) (T := TX4) (N := 15) hx hb hts hiX4 tyX4 tyX4_ok nmX4 hown hK hP (dF hD rfl) hS 0 rfl rfl 9 (by decide) fl43 (fun _ h9 => h9) rfl (by decide +kernel) rfl rfl (Nat.le_of_ble_eq_true rfl) dX4_copyFrom_139 (fun H locs hP _ hS => ?_)
  replace hP : va_P D vwCl [(qt, .inr (4, [.ref qt_tube, .ref qt_goods, .ref qt_stick, .ref qt_kicks, .ref qt_kickCount, .ref qt_low, .ref qt_high, .ref qt_price, .ref qt_wired, .int is1_lost, .int it_stamps, .int it_sales, .int it_damp, .int it_worn, .int it_seed])), (qs1, .inr (4, [.ref qs1_tube, .ref qs1_goods, .ref qs1_stick, .ref qs1_kicks, .ref qs1_kickCount, .ref qs1_low, .ref qs1_high, .ref qs1_price, .ref qs1_wired, .int is1_lost, .int is1_stamps, .int is1_sales, .int is1_damp, .int is1_worn, .int is1_seed])), (qt_tube, .inl (cI, 5, .inl g17)), (qs1_tube, .inl (cI, 5, .inl fs1_tube)), (qt_goods, .inl (cI, 5, .inl g19)), (qs1_goods, .inl (cI, 5, .inl fs1_goods)), (qt_stick, .inl (cI, 5, .inl g20)), (qs1_stick, .inl (cI, 5, .inl fs1_stick)), (qt_kicks, .inl (cI, 5, .inl g21)), (qs1_kicks, .inl (cI, 5, .inl fs1_kicks)), (qt_kickCount, .inl (cI, 5, .inl g22)), (qs1_kickCount, .inl (cI, 5, .inl fs1_kickCount)), (qt_low, .inl (cI, 5, .inl g23)), (qs1_low, .inl (cI, 5, .inl fs1_low)), (qt_high, .inl (cI, 5, .inl g24)), (qs1_high, .inl (cI, 5, .inl fs1_high)), (qt_price, .inl (cI, 5, .inl g25)), (qs1_price, .inl (cI, 5, .inl fs1_price)), (qt_wired, .inl (cI, 5, .inl g26)), (qs1_wired, .inl (cI, 5, .inl fs1_wired))] H := hP
  refine lv_aload_n hx hb dX4_copyFrom_142 rfl (lv_at hl 0 rfl) ?_
  refine lv_aload_n hx hb dX4_copyFrom_143 rfl (lv_at hl 1 rfl) ?_
  refine va_get (ci := 4) (v := .int is1_stamps) (C := RX4) (T := TX4) (N := 15) hx hb hts hiX4 hown hK hP 1 rfl rfl 10 (by decide) fl47 (fun _ h9 => h9) rfl dX4_copyFrom_144 ?_
  refine va_put (ci := 4) (v := .int is1_stamps) (ty := .int) (C := RX4) (T := TX4) (N := 15) hx hb hts hiX4 tyX4 tyX4_ok nmX4 hown hK hP (dF hD rfl) hS 0 rfl rfl 10 (by decide) fl47 (fun _ h9 => h9) rfl (by decide +kernel) rfl rfl (Nat.le_of_ble_eq_true rfl) dX4_copyFrom_147 (fun H locs hP _ hS => ?_)
  replace hP : va_P D vwCl [(qt, .inr (4, [.ref qt_tube, .ref qt_goods, .ref qt_stick, .ref qt_kicks, .ref qt_kickCount, .ref qt_low, .ref qt_high, .ref qt_price, .ref qt_wired, .int is1_lost, .int is1_stamps, .int it_sales, .int it_damp, .int it_worn, .int it_seed])), (qs1, .inr (4, [.ref qs1_tube, .ref qs1_goods, .ref qs1_stick, .ref qs1_kicks, .ref qs1_kickCount, .ref qs1_low, .ref qs1_high, .ref qs1_price, .ref qs1_wired, .int is1_lost, .int is1_stamps, .int is1_sales, .int is1_damp, .int is1_worn, .int is1_seed])), (qt_tube, .inl (cI, 5, .inl g17)), (qs1_tube, .inl (cI, 5, .inl fs1_tube)), (qt_goods, .inl (cI, 5, .inl g19)), (qs1_goods, .inl (cI, 5, .inl fs1_goods)), (qt_stick, .inl (cI, 5, .inl g20)), (qs1_stick, .inl (cI, 5, .inl fs1_stick)), (qt_kicks, .inl (cI, 5, .inl g21)), (qs1_kicks, .inl (cI, 5, .inl fs1_kicks)), (qt_kickCount, .inl (cI, 5, .inl g22)), (qs1_kickCount, .inl (cI, 5, .inl fs1_kickCount)), (qt_low, .inl (cI, 5, .inl g23)), (qs1_low, .inl (cI, 5, .inl fs1_low)), (qt_high, .inl (cI, 5, .inl g24)), (qs1_high, .inl (cI, 5, .inl fs1_high)), (qt_price, .inl (cI, 5, .inl g25)), (qs1_price, .inl (cI, 5, .inl fs1_price)), (qt_wired, .inl (cI, 5, .inl g26)), (qs1_wired, .inl (cI, 5, .inl fs1_wired))] H := hP
  refine lv_aload_n hx hb dX4_copyFrom_150 rfl (lv_at hl 0 rfl) ?_
  refine lv_aload_n hx hb dX4_copyFrom_151 rfl (lv_at hl 1 rfl) ?_
  refine va_get (ci := 4) (v := .int is1_sales) (C := RX4) (T := TX4) (N := 15) hx hb hts hiX4 hown hK hP 1 rfl rfl 11 (by decide) fl50 (fun _ h9 => h9) rfl dX4_copyFrom_152 ?_
  refine va_put (ci := 4) (v := .int is1_sales) (ty := .int) (C := RX4) (T := TX4) (N := 15) hx hb hts hiX4 tyX4 tyX4_ok nmX4 hown hK hP (dF hD rfl) hS 0 rfl rfl 11 (by decide) fl50 (fun _ h9 => h9) rfl (by decide +kernel) rfl rfl (Nat.le_of_ble_eq_true rfl) dX4_copyFrom_155 (fun H locs hP _ hS => ?_)
  replace hP : va_P D vwCl [(qt, .inr (4, [.ref qt_tube, .ref qt_goods, .ref qt_stick, .ref qt_kicks, .ref qt_kickCount, .ref qt_low, .ref qt_high, .ref qt_price, .ref qt_wired, .int is1_lost, .int is1_stamps, .int is1_sales, .int it_damp, .int it_worn, .int it_seed])), (qs1, .inr (4, [.ref qs1_tube, .ref qs1_goods, .ref qs1_stick, .ref qs1_kicks, .ref qs1_kickCount, .ref qs1_low, .ref qs1_high, .ref qs1_price, .ref qs1_wired, .int is1_lost, .int is1_stamps, .int is1_sales, .int is1_damp, .int is1_worn, .int is1_seed])), (qt_tube, .inl (cI, 5, .inl g17)), (qs1_tube, .inl (cI, 5, .inl fs1_tube)), (qt_goods, .inl (cI, 5, .inl g19)), (qs1_goods, .inl (cI, 5, .inl fs1_goods)), (qt_stick, .inl (cI, 5, .inl g20)), (qs1_stick, .inl (cI, 5, .inl fs1_stick)), (qt_kicks, .inl (cI, 5, .inl g21)), (qs1_kicks, .inl (cI, 5, .inl fs1_kicks)), (qt_kickCount, .inl (cI, 5, .inl g22)), (qs1_kickCount, .inl (cI, 5, .inl fs1_kickCount)), (qt_low, .inl (cI, 5, .inl g23)), (qs1_low, .inl (cI, 5, .inl fs1_low)), (qt_high, .inl (cI, 5, .inl g24)), (qs1_high, .inl (cI, 5, .inl fs1_high)), (qt_price, .inl (cI, 5, .inl g25)), (qs1_price, .inl (cI, 5, .inl fs1_price)), (qt_wired, .inl (cI, 5, .inl g26)), (qs1_wired, .inl (cI, 5, .inl fs1_wired))] H := hP
  refine lv_aload_n hx hb dX4_copyFrom_158 rfl (lv_at hl 0 rfl) ?_
  refine lv_aload_n hx hb dX4_copyFrom_159 rfl (lv_at hl 1 rfl) ?_
  refine va_get (ci := 4) (v := .int is1_damp) (C := RX4) (T := TX4) (N := 15) hx hb hts hiX4 hown hK hP 1 rfl rfl 12 (by decide) fl53 (fun _ h9 => h9) rfl dX4_copyFrom_160 ?_
  refine va_put (ci := 4) (v := .int is1_damp) (ty := .int) (C := RX4) (T := TX4) (N := 15) hx hb hts hiX4 tyX4 tyX4_ok nmX4 hown hK hP (dF hD rfl) hS 0 rfl rfl 12 (by decide) fl53 (fun _ h9 => h9) rfl (by decide +kernel) rfl rfl (Nat.le_of_ble_eq_true rfl) dX4_copyFrom_163 (fun H locs hP _ hS => ?_)
  replace hP : va_P D vwCl [(qt, .inr (4, [.ref qt_tube, .ref qt_goods, .ref qt_stick, .ref qt_kicks, .ref qt_kickCount, .ref qt_low, .ref qt_high, .ref qt_price, .ref qt_wired, .int is1_lost, .int is1_stamps, .int is1_sales, .int is1_damp, .int it_worn, .int it_seed])), (qs1, .inr (4, [.ref qs1_tube, .ref qs1_goods, .ref qs1_stick, .ref qs1_kicks, .ref qs1_kickCount, .ref qs1_low, .ref qs1_high, .ref qs1_price, .ref qs1_wired, .int is1_lost, .int is1_stamps, .int is1_sales, .int is1_damp, .int is1_worn, .int is1_seed])), (qt_tube, .inl (cI, 5, .inl g17)), (qs1_tube, .inl (cI, 5, .inl fs1_tube)), (qt_goods, .inl (cI, 5, .inl g19)), (qs1_goods, .inl (cI, 5, .inl fs1_goods)), (qt_stick, .inl (cI, 5, .inl g20)), (qs1_stick, .inl (cI, 5, .inl fs1_stick)), (qt_kicks, .inl (cI, 5, .inl g21)), (qs1_kicks, .inl (cI, 5, .inl fs1_kicks)), (qt_kickCount, .inl (cI, 5, .inl g22)), (qs1_kickCount, .inl (cI, 5, .inl fs1_kickCount)), (qt_low, .inl (cI, 5, .inl g23)), (qs1_low, .inl (cI, 5, .inl fs1_low)), (qt_high, .inl (cI, 5, .inl g24)), (qs1_high, .inl (cI, 5, .inl fs1_high)), (qt_price, .inl (cI, 5, .inl g25)), (qs1_price, .inl (cI, 5, .inl fs1_price)), (qt_wired, .inl (cI, 5, .inl g26)), (qs1_wired, .inl (cI, 5, .inl fs1_wired))] H := hP
  refine lv_aload_n hx hb dX4_copyFrom_166 rfl (lv_at hl 0 rfl) ?_
  refine lv_aload_n hx hb dX4_copyFrom_167 rfl (lv_at hl 1 rfl) ?_
  refine va_get (ci := 4) (v := .int is1_worn) (C := RX4) (T := TX4) (N := 15) hx hb hts hiX4 hown hK hP 1 rfl rfl 13 (by decide) fl56 (fun _ h9 => h9) rfl dX4_copyFrom_168 ?_
  refine va_put (ci := 4) (v := .int is1_worn) (ty := .int) (C := RX4) (T := TX4) (N := 15) hx hb hts hiX4 tyX4 tyX4_ok nmX4 hown hK hP (dF hD rfl) hS 0 rfl rfl 13 (by decide) fl56 (fun _ h9 => h9) rfl (by decide +kernel) rfl rfl (Nat.le_of_ble_eq_true rfl) dX4_copyFrom_171 (fun H locs hP _ hS => ?_)
  replace hP : va_P D vwCl [(qt, .inr (4, [.ref qt_tube, .ref qt_goods, .ref qt_stick, .ref qt_kicks, .ref qt_kickCount, .ref qt_low, .ref qt_high, .ref qt_price, .ref qt_wired, .int is1_lost, .int is1_stamps, .int is1_sales, .int is1_damp, .int is1_worn, .int it_seed])), (qs1, .inr (4, [.ref qs1_tube, .ref qs1_goods, .ref qs1_stick, .ref qs1_kicks, .ref qs1_kickCount, .ref qs1_low, .ref qs1_high, .ref qs1_price, .ref qs1_wired, .int is1_lost, .int is1_stamps, .int is1_sales, .int is1_damp, .int is1_worn, .int is1_seed])), (qt_tube, .inl (cI, 5, .inl g17)), (qs1_tube, .inl (cI, 5, .inl fs1_tube)), (qt_goods, .inl (cI, 5, .inl g19)), (qs1_goods, .inl (cI, 5, .inl fs1_goods)), (qt_stick, .inl (cI, 5, .inl g20)), (qs1_stick, .inl (cI, 5, .inl fs1_stick)), (qt_kicks, .inl (cI, 5, .inl g21)), (qs1_kicks, .inl (cI, 5, .inl fs1_kicks)), (qt_kickCount, .inl (cI, 5, .inl g22)), (qs1_kickCount, .inl (cI, 5, .inl fs1_kickCount)), (qt_low, .inl (cI, 5, .inl g23)), (qs1_low, .inl (cI, 5, .inl fs1_low)), (qt_high, .inl (cI, 5, .inl g24)), (qs1_high, .inl (cI, 5, .inl fs1_high)), (qt_price, .inl (cI, 5, .inl g25)), (qs1_price, .inl (cI, 5, .inl fs1_price)), (qt_wired, .inl (cI, 5, .inl g26)), (qs1_wired, .inl (cI, 5, .inl fs1_wired))] H := hP
  refine lv_aload_n hx hb dX4_copyFrom_174 rfl (lv_at hl 0 rfl) ?_
  refine lv_aload_n hx hb dX4_copyFrom_175 rfl (lv_at hl 1 rfl) ?_
  refine va_get (ci := 4) (v := .int is1_seed) (C := RX4) (T := TX4) (N := 15) hx hb hts hiX4 hown hK hP 1 rfl rfl 14 (by decide) fl59 (fun _ h9 => h9) rfl dX4_copyFrom_176 ?_
  refine va_put (ci := 4) (v := .int is1_seed) (ty := .int) (C := RX4) (T := TX4) (N := 15) hx hb hts hiX4 tyX4 tyX4_ok nmX4 hown hK hP (dF hD rfl) hS 0 rfl rfl 14 (by decide) fl59 (fun _ h9 => h9) rfl (by decide +kernel) rfl rfl (Nat.le_of_ble_eq_true rfl) dX4_copyFrom_179 (fun H locs hP _ hS => ?_)
  replace hP : va_P D vwCl [(qt, .inr (4, [.ref qt_tube, .ref qt_goods, .ref qt_stick, .ref qt_kicks, .ref qt_kickCount, .ref qt_low, .ref qt_high, .ref qt_price, .ref qt_wired, .int is1_lost, .int is1_stamps, .int is1_sales, .int is1_damp, .int is1_worn, .int is1_seed])), (qs1, .inr (4, [.ref qs1_tube, .ref qs1_goods, .ref qs1_stick, .ref qs1_kicks, .ref qs1_kickCount, .ref qs1_low, .ref qs1_high, .ref qs1_price, .ref qs1_wired, .int is1_lost, .int is1_stamps, .int is1_sales, .int is1_damp, .int is1_worn, .int is1_seed])), (qt_tube, .inl (cI, 5, .inl g17)), (qs1_tube, .inl (cI, 5, .inl fs1_tube)), (qt_goods, .inl (cI, 5, .inl g19)), (qs1_goods, .inl (cI, 5, .inl fs1_goods)), (qt_stick, .inl (cI, 5, .inl g20)), (qs1_stick, .inl (cI, 5, .inl fs1_stick)), (qt_kicks, .inl (cI, 5, .inl g21)), (qs1_kicks, .inl (cI, 5, .inl fs1_kicks)), (qt_kickCount, .inl (cI, 5, .inl g22)), (qs1_kickCount, .inl (cI, 5, .inl fs1_kickCount)), (qt_low, .inl (cI, 5, .inl g23)), (qs1_low, .inl (cI, 5, .inl fs1_low)), (qt_high, .inl (cI, 5, .inl g24)), (qs1_high, .inl (cI, 5, .inl fs1_high)), (qt_price, .inl (cI, 5, .inl g25)), (qs1_price, .inl (cI, 5, .inl fs1_price)), (qt_wired, .inl (cI, 5, .inl g26)), (qs1_wired, .inl (cI, 5, .inl fs1_wired))] H := hP
  simp only [Option.some.injEq, Prod.mk.injEq] at h
  obtain ⟨rfl, rfl, rfl, rfl, rfl, rfl, rfl, rfl, rfl, rfl, rfl, rfl, rfl, rfl, rfl⟩ := h
  exact hret _ _ _ _ hP hS dX4_copyFrom_182
theorem hdX4_copyFrom : yX4_copyFrom.cls = RX4 ∧ yX4_copyFrom.cls ≠ "java/lang/invoke/MethodHandle" ∧ yX4_copyFrom.cls ≠ "java/lang/invoke/VarHandle" ∧ (parseMethodDescriptor yX4_copyFrom.desc).map (fun d => d.parameters.length) = some 1 := by decide +kernel

noncomputable def fX4_holdsLike_L32 (N : Nat) : Nat → Int32 → (Nat → Int32) → (Nat → Int32) → Option ((Unit) ⊕ (Int32))
  | 0, _, _, _ => none
  | k + 1, x2, ft_goods, fs1_goods => (if 5 ≤ x2 then some (.inl ()) else ck x2 5 ((if (ft_goods (Int32.toNatClampNeg x2)) = (fs1_goods (Int32.toNatClampNeg x2)) then lt (x2 + 1) fun n4 => fX4_holdsLike_L32 N k n4 ft_goods fs1_goods else some (.inr 0))))
theorem fX4_holdsLike_L32_s (N : Nat) (k : Nat) (x2 : Int32) (ft_goods : Nat → Int32) (fs1_goods : Nat → Int32) : fX4_holdsLike_L32 N (k + 1) x2 ft_goods fs1_goods = ((if 5 ≤ x2 then some (.inl ()) else ck x2 5 ((if (ft_goods (Int32.toNatClampNeg x2)) = (fs1_goods (Int32.toNatClampNeg x2)) then lt (x2 + 1) fun n4 => fX4_holdsLike_L32 N k n4 ft_goods fs1_goods else some (.inr 0))))) := rfl
noncomputable def fX4_holdsLike_L2 (N : Nat) : Nat → Int32 → (Nat → Int32) → (Nat → Int32) → Option ((Unit) ⊕ (Int32))
  | 0, _, _, _ => none
  | k + 1, x2, ft_tube, fs1_tube => (if 5 ≤ x2 then some (.inl ()) else ck x2 5 ((if (ft_tube (Int32.toNatClampNeg x2)) = (fs1_tube (Int32.toNatClampNeg x2)) then lt (x2 + 1) fun n8 => fX4_holdsLike_L2 N k n8 ft_tube fs1_tube else some (.inr 0))))
theorem fX4_holdsLike_L2_s (N : Nat) (k : Nat) (x2 : Int32) (ft_tube : Nat → Int32) (fs1_tube : Nat → Int32) : fX4_holdsLike_L2 N (k + 1) x2 ft_tube fs1_tube = ((if 5 ≤ x2 then some (.inl ()) else ck x2 5 ((if (ft_tube (Int32.toNatClampNeg x2)) = (fs1_tube (Int32.toNatClampNeg x2)) then lt (x2 + 1) fun n8 => fX4_holdsLike_L2 N k n8 ft_tube fs1_tube else some (.inr 0))))) := rfl
noncomputable def fX4_holdsLike (N : Nat) (it_lost : Int32) (it_stamps : Int32) (is1_lost : Int32) (is1_stamps : Int32) (ft_goods : Nat → Int32) (fs1_goods : Nat → Int32) (ft_tube : Nat → Int32) (fs1_tube : Nat → Int32) : Option (Int32) := bd (fX4_holdsLike_L2 N N 0 ft_tube fs1_tube) fun o => match o with | .inr rr => some rr | .inl _ => bd (fX4_holdsLike_L32 N N 0 ft_goods fs1_goods) fun o => match o with | .inr rr => some rr | .inl _ => (if it_lost = is1_lost then (if it_stamps = is1_stamps then some 1 else some 0) else some 0)
set_option maxHeartbeats 4000000 in
set_option maxRecDepth 100000 in
theorem ctX4_holdsLike (l : Launch) (D : va_G) (cI cZ cB cS : ClassId) (kK kV : Nat → Nat) (sz : Nat) (qt qt_tube qt_goods qt_stick qt_kicks qt_kickCount qt_low qt_high qt_price qt_wired qs1 qs1_tube qs1_goods qs1_stick qs1_kicks qs1_kickCount qs1_low qs1_high qs1_price qs1_wired : Nat) (it_lost : Int32) (it_stamps : Int32) (it_sales : Int32) (it_damp : Int32) (it_worn : Int32) (it_seed : Int32) (is1_lost : Int32) (is1_stamps : Int32) (is1_sales : Int32) (is1_damp : Int32) (is1_worn : Int32) (is1_seed : Int32) (ft_goods : Nat → Int32) (fs1_goods : Nat → Int32) (ft_tube : Nat → Int32) (fs1_tube : Nat → Int32)  (N : Nat) (r0 : Int32)  (h : fX4_holdsLike N it_lost it_stamps is1_lost is1_stamps ft_goods fs1_goods ft_tube fs1_tube = some r0) : CtI l yX4_holdsLike wsX4_holdsLike { frames := 0, cells := 0, slots := 0, locals := 0 } D (TY cI cZ cB cS) kK kV [.ref qt, .ref qs1] [(qt, .inr (4, [.ref qt_tube, .ref qt_goods, .ref qt_stick, .ref qt_kicks, .ref qt_kickCount, .ref qt_low, .ref qt_high, .ref qt_price, .ref qt_wired, .int it_lost, .int it_stamps, .int it_sales, .int it_damp, .int it_worn, .int it_seed])), (qs1, .inr (4, [.ref qs1_tube, .ref qs1_goods, .ref qs1_stick, .ref qs1_kicks, .ref qs1_kickCount, .ref qs1_low, .ref qs1_high, .ref qs1_price, .ref qs1_wired, .int is1_lost, .int is1_stamps, .int is1_sales, .int is1_damp, .int is1_worn, .int is1_seed])), (qt_goods, .inl (cI, 5, .inl ft_goods)), (qs1_goods, .inl (cI, 5, .inl fs1_goods)), (qt_tube, .inl (cI, 5, .inl ft_tube)), (qs1_tube, .inl (cI, 5, .inl fs1_tube))] [(qt, .inr (4, [.ref qt_tube, .ref qt_goods, .ref qt_stick, .ref qt_kicks, .ref qt_kickCount, .ref qt_low, .ref qt_high, .ref qt_price, .ref qt_wired, .int it_lost, .int it_stamps, .int it_sales, .int it_damp, .int it_worn, .int it_seed])), (qs1, .inr (4, [.ref qs1_tube, .ref qs1_goods, .ref qs1_stick, .ref qs1_kicks, .ref qs1_kickCount, .ref qs1_low, .ref qs1_high, .ref qs1_price, .ref qs1_wired, .int is1_lost, .int is1_stamps, .int is1_sales, .int is1_damp, .int is1_worn, .int is1_seed])), (qt_goods, .inl (cI, 5, .inl ft_goods)), (qs1_goods, .inl (cI, 5, .inl fs1_goods)), (qt_tube, .inl (cI, 5, .inl ft_tube)), (qs1_tube, .inl (cI, 5, .inl fs1_tube))] sz r0 := by
  refine mkI (cc := cX4_holdsLike) (maxL := 3) (rt := .boolean) (own := RX4) (by decide) rfl rfl (Nat.le_of_ble_eq_true rfl) ?_
  intro p e s m args below meth c A Z ls hx hb hml hown hts hK hN hX hP hD hA hS hret hl
  have hl : lv_has ls 3 [(0, .ref qt), (1, .ref qs1)] := hl
  have fl15 : (Cond.fieldLink RX4 15 "SoupWall$State" "goods" "[I").before args s = true := hts _ (List.mem_of_getElem? (l := wsX4_holdsLike) (i := 2) rfl)
  have hiX4 : ∀ w ∈ wsX40, w ∈ wsX4_holdsLike := fun w h => List.mem_cons_of_mem _ (List.mem_append_right _ h)
  have fl9 : (Cond.fieldLink RX4 9 "SoupWall$State" "tube" "[I").before args s = true := hts _ (List.mem_of_getElem? (l := wsX4_holdsLike) (i := 1) rfl)
  have fl43 : (Cond.fieldLink RX4 43 "SoupWall$State" "lost" "I").before args s = true := hts _ (List.mem_of_getElem? (l := wsX4_holdsLike) (i := 3) rfl)
  have fl47 : (Cond.fieldLink RX4 47 "SoupWall$State" "stamps" "I").before args s = true := hts _ (List.mem_of_getElem? (l := wsX4_holdsLike) (i := 4) rfl)
  have lp32 : ∀ (k : Nat) (x2 : Int32)  (H : Heap) (locs : List Loc) (ls : Array Slot) (o : (Unit) ⊕ (Int32)), fX4_holdsLike_L32 N k x2 ft_goods fs1_goods = some o → va_P D vwCl [(qt, .inr (4, [.ref qt_tube, .ref qt_goods, .ref qt_stick, .ref qt_kicks, .ref qt_kickCount, .ref qt_low, .ref qt_high, .ref qt_price, .ref qt_wired, .int it_lost, .int it_stamps, .int it_sales, .int it_damp, .int it_worn, .int it_seed])), (qs1, .inr (4, [.ref qs1_tube, .ref qs1_goods, .ref qs1_stick, .ref qs1_kicks, .ref qs1_kickCount, .ref qs1_low, .ref qs1_high, .ref qs1_price, .ref qs1_wired, .int is1_lost, .int is1_stamps, .int is1_sales, .int is1_damp, .int is1_worn, .int is1_seed])), (qt_goods, .inl (cI, 5, .inl ft_goods)), (qs1_goods, .inl (cI, 5, .inl fs1_goods)), (qt_tube, .inl (cI, 5, .inl ft_tube)), (qs1_tube, .inl (cI, 5, .inl fs1_tube))] H → va_S A s.heap H locs → lv_has ls 3 [(0, .ref qt), (1, .ref qs1), (2, .int x2)] → (∀ rr, .inr rr = o → rr = r0) → (.inl () = o → ∀ (H : Heap) (locs : List Loc) (ls : Array Slot), va_P D vwCl [(qt, .inr (4, [.ref qt_tube, .ref qt_goods, .ref qt_stick, .ref qt_kicks, .ref qt_kickCount, .ref qt_low, .ref qt_high, .ref qt_price, .ref qt_wired, .int it_lost, .int it_stamps, .int it_sales, .int it_damp, .int it_worn, .int it_seed])), (qs1, .inr (4, [.ref qs1_tube, .ref qs1_goods, .ref qs1_stick, .ref qs1_kicks, .ref qs1_kickCount, .ref qs1_low, .ref qs1_high, .ref qs1_price, .ref qs1_wired, .int is1_lost, .int is1_stamps, .int is1_sales, .int is1_damp, .int is1_worn, .int is1_seed])), (qt_goods, .inl (cI, 5, .inl ft_goods)), (qs1_goods, .inl (cI, 5, .inl fs1_goods)), (qt_tube, .inl (cI, 5, .inl ft_tube)), (qs1_tube, .inl (cI, 5, .inl fs1_tube))] H → va_S A s.heap H locs → lv_has ls 3 [(0, .ref qt), (1, .ref qs1)] → W p l e ({ frames := 0, cells := 0, slots := 0, locals := 0 } : Room) s m args below meth c H locs 0 0 Z (F0 m 60 ls [])) → W p l e ({ frames := 0, cells := 0, slots := 0, locals := 0 } : Room) s m args below meth c H locs 0 0 Z (F0 m 32 ls []) := by
    intro k
    induction k with
    | zero =>
      intro x2 H locs ls o h
      exact nomatch (show (none : Option ((Unit) ⊕ (Int32))) = some o from h)
    | succ k ih =>
      intro x2 H locs ls o h hP hS hl KR K
      rw [fX4_holdsLike_L32_s] at h
      refine lv_iload_n hx hb dX4_holdsLike_32 rfl (lv_at hl 2 rfl) ?_
      refine lv_iconst (v := 5) hx hb dX4_holdsLike_33 (by decide) ?_
      refine lv_icmp_ge (tgt := 60) hx hb dX4_holdsLike_34 (by decide) (fun c1 => ?_) (fun c1 => ?_)
      · replace h := if_t c1 h
        exact K  (Option.some.inj h) _ _ _ hP hS (lv_sub hl [0, 1] rfl)
      · replace h := if_f c1 h
        refine lv_aload_n hx hb dX4_holdsLike_37 rfl (lv_at hl 0 rfl) ?_
        refine va_get (ci := 4) (v := .ref qt_goods) (C := RX4) (T := TX4) (N := 15) hx hb hts hiX4 hown hK hP 0 rfl rfl 1 (by decide) fl15 (fun _ h9 => h9) rfl dX4_holdsLike_38 ?_
        refine lv_iload_n hx hb dX4_holdsLike_41 rfl (lv_at hl 2 rfl) ?_
        replace h := ck_el h
        obtain ⟨hi2, h⟩ := h
        refine va_iald hx hb hK hP 2 0 rfl rfl hi2 dX4_holdsLike_42 ?_
        refine lv_aload_n hx hb dX4_holdsLike_43 rfl (lv_at hl 1 rfl) ?_
        refine va_get (ci := 4) (v := .ref qs1_goods) (C := RX4) (T := TX4) (N := 15) hx hb hts hiX4 hown hK hP 1 rfl rfl 1 (by decide) fl15 (fun _ h9 => h9) rfl dX4_holdsLike_44 ?_
        refine lv_iload_n hx hb dX4_holdsLike_47 rfl (lv_at hl 2 rfl) ?_
        refine va_iald hx hb hK hP 3 0 rfl rfl hi2 dX4_holdsLike_48 ?_
        refine lv_icmp_eq (tgt := 54) hx hb dX4_holdsLike_49 (by decide) (fun c3 => ?_) (fun c3 => ?_)
        · replace h := if_t c3 h
          obtain ⟨n4, en4⟩ : ∃ z : Int32, z = x2 + 1 := ⟨_, rfl⟩
          replace h := lt_at en4 h
          refine lv_iinc (v := n4) (lv' := [(2, .int n4), (0, .ref qt), (1, .ref qs1)]) hx hb dX4_holdsLike_54 hl (k := 2) rfl (by rw [en4]; rfl) (by decide) rfl (fun ls hl => ?_)
          refine lv_goto (tgt := 32) hx hb dX4_holdsLike_57 (by decide) ?_
          exact ih n4 _ _ _ o h hP hS (lv_sub hl [1, 2, 0] rfl) KR K
        · replace h := if_f c3 h
          refine lv_iconst (v := 0) hx hb dX4_holdsLike_52 (by decide) ?_
          have hz9 := KR _ (Option.some.inj h)
          subst hz9
          exact hret _ _ _ _ hP hS rfl dX4_holdsLike_53
  have lp2 : ∀ (k : Nat) (x2 : Int32)  (H : Heap) (locs : List Loc) (ls : Array Slot) (o : (Unit) ⊕ (Int32)), fX4_holdsLike_L2 N k x2 ft_tube fs1_tube = some o → va_P D vwCl [(qt, .inr (4, [.ref qt_tube, .ref qt_goods, .ref qt_stick, .ref qt_kicks, .ref qt_kickCount, .ref qt_low, .ref qt_high, .ref qt_price, .ref qt_wired, .int it_lost, .int it_stamps, .int it_sales, .int it_damp, .int it_worn, .int it_seed])), (qs1, .inr (4, [.ref qs1_tube, .ref qs1_goods, .ref qs1_stick, .ref qs1_kicks, .ref qs1_kickCount, .ref qs1_low, .ref qs1_high, .ref qs1_price, .ref qs1_wired, .int is1_lost, .int is1_stamps, .int is1_sales, .int is1_damp, .int is1_worn, .int is1_seed])), (qt_goods, .inl (cI, 5, .inl ft_goods)), (qs1_goods, .inl (cI, 5, .inl fs1_goods)), (qt_tube, .inl (cI, 5, .inl ft_tube)), (qs1_tube, .inl (cI, 5, .inl fs1_tube))] H → va_S A s.heap H locs → lv_has ls 3 [(0, .ref qt), (1, .ref qs1), (2, .int x2)] → (∀ rr, .inr rr = o → rr = r0) → (.inl () = o → ∀ (H : Heap) (locs : List Loc) (ls : Array Slot), va_P D vwCl [(qt, .inr (4, [.ref qt_tube, .ref qt_goods, .ref qt_stick, .ref qt_kicks, .ref qt_kickCount, .ref qt_low, .ref qt_high, .ref qt_price, .ref qt_wired, .int it_lost, .int it_stamps, .int it_sales, .int it_damp, .int it_worn, .int it_seed])), (qs1, .inr (4, [.ref qs1_tube, .ref qs1_goods, .ref qs1_stick, .ref qs1_kicks, .ref qs1_kickCount, .ref qs1_low, .ref qs1_high, .ref qs1_price, .ref qs1_wired, .int is1_lost, .int is1_stamps, .int is1_sales, .int is1_damp, .int is1_worn, .int is1_seed])), (qt_goods, .inl (cI, 5, .inl ft_goods)), (qs1_goods, .inl (cI, 5, .inl fs1_goods)), (qt_tube, .inl (cI, 5, .inl ft_tube)), (qs1_tube, .inl (cI, 5, .inl fs1_tube))] H → va_S A s.heap H locs → lv_has ls 3 [(0, .ref qt), (1, .ref qs1)] → W p l e ({ frames := 0, cells := 0, slots := 0, locals := 0 } : Room) s m args below meth c H locs 0 0 Z (F0 m 30 ls [])) → W p l e ({ frames := 0, cells := 0, slots := 0, locals := 0 } : Room) s m args below meth c H locs 0 0 Z (F0 m 2 ls []) := by
    intro k
    induction k with
    | zero =>
      intro x2 H locs ls o h
      exact nomatch (show (none : Option ((Unit) ⊕ (Int32))) = some o from h)
    | succ k ih =>
      intro x2 H locs ls o h hP hS hl KR K
      rw [fX4_holdsLike_L2_s] at h
      refine lv_iload_n hx hb dX4_holdsLike_2 rfl (lv_at hl 2 rfl) ?_
      refine lv_iconst (v := 5) hx hb dX4_holdsLike_3 (by decide) ?_
      refine lv_icmp_ge (tgt := 30) hx hb dX4_holdsLike_4 (by decide) (fun c5 => ?_) (fun c5 => ?_)
      · replace h := if_t c5 h
        exact K  (Option.some.inj h) _ _ _ hP hS (lv_sub hl [0, 1] rfl)
      · replace h := if_f c5 h
        refine lv_aload_n hx hb dX4_holdsLike_7 rfl (lv_at hl 0 rfl) ?_
        refine va_get (ci := 4) (v := .ref qt_tube) (C := RX4) (T := TX4) (N := 15) hx hb hts hiX4 hown hK hP 0 rfl rfl 0 (by decide) fl9 (fun _ h9 => h9) rfl dX4_holdsLike_8 ?_
        refine lv_iload_n hx hb dX4_holdsLike_11 rfl (lv_at hl 2 rfl) ?_
        replace h := ck_el h
        obtain ⟨hi6, h⟩ := h
        refine va_iald hx hb hK hP 4 0 rfl rfl hi6 dX4_holdsLike_12 ?_
        refine lv_aload_n hx hb dX4_holdsLike_13 rfl (lv_at hl 1 rfl) ?_
        refine va_get (ci := 4) (v := .ref qs1_tube) (C := RX4) (T := TX4) (N := 15) hx hb hts hiX4 hown hK hP 1 rfl rfl 0 (by decide) fl9 (fun _ h9 => h9) rfl dX4_holdsLike_14 ?_
        refine lv_iload_n hx hb dX4_holdsLike_17 rfl (lv_at hl 2 rfl) ?_
        refine va_iald hx hb hK hP 5 0 rfl rfl hi6 dX4_holdsLike_18 ?_
        refine lv_icmp_eq (tgt := 24) hx hb dX4_holdsLike_19 (by decide) (fun c7 => ?_) (fun c7 => ?_)
        · replace h := if_t c7 h
          obtain ⟨n8, en8⟩ : ∃ z : Int32, z = x2 + 1 := ⟨_, rfl⟩
          replace h := lt_at en8 h
          refine lv_iinc (v := n8) (lv' := [(2, .int n8), (0, .ref qt), (1, .ref qs1)]) hx hb dX4_holdsLike_24 hl (k := 2) rfl (by rw [en8]; rfl) (by decide) rfl (fun ls hl => ?_)
          refine lv_goto (tgt := 2) hx hb dX4_holdsLike_27 (by decide) ?_
          exact ih n8 _ _ _ o h hP hS (lv_sub hl [1, 2, 0] rfl) KR K
        · replace h := if_f c7 h
          refine lv_iconst (v := 0) hx hb dX4_holdsLike_22 (by decide) ?_
          have hz9 := KR _ (Option.some.inj h)
          subst hz9
          exact hret _ _ _ _ hP hS rfl dX4_holdsLike_23
  unfold fX4_holdsLike at h
  refine lv_iconst (v := 0) hx hb dX4_holdsLike_0 (by decide) ?_
  refine lv_istore_n (lv' := [(2, .int 0), (0, .ref qt), (1, .ref qs1)]) hx hb dX4_holdsLike_1 rfl hl (by decide) rfl (fun ls hl => ?_)
  replace h := bd_el h
  obtain ⟨o9, ho9, h⟩ := h
  refine lp2 N 0 _ _ _ o9 ho9 hP hS (lv_sub hl [1, 2, 0] rfl) (fun rr er => by subst er; exact Option.some.inj h) (fun  eo H locs ls hP hS hl => ?_)
  subst eo
  dsimp only at h
  refine lv_iconst (v := 0) hx hb dX4_holdsLike_30 (by decide) ?_
  refine lv_istore_n (lv' := [(2, .int 0), (0, .ref qt), (1, .ref qs1)]) hx hb dX4_holdsLike_31 rfl hl (by decide) rfl (fun ls hl => ?_)
  replace h := bd_el h
  obtain ⟨o10, ho10, h⟩ := h
  refine lp32 N 0 _ _ _ o10 ho10 hP hS (lv_sub hl [1, 2, 0] rfl) (fun rr er => by subst er; exact Option.some.inj h) (fun  eo H locs ls hP hS hl => ?_)
  subst eo
  dsimp only at h
  refine lv_aload_n hx hb dX4_holdsLike_60 rfl (lv_at hl 0 rfl) ?_
  refine va_get (ci := 4) (v := .int it_lost) (C := RX4) (T := TX4) (N := 15) hx hb hts hiX4 hown hK hP 0 rfl rfl 9 (by decide) fl43 (fun _ h9 => h9) rfl dX4_holdsLike_61 ?_
  refine lv_aload_n hx hb dX4_holdsLike_64 rfl (lv_at hl 1 rfl) ?_
  refine va_get (ci := 4) (v := .int is1_lost) (C := RX4) (T := TX4) (N := 15) hx hb hts hiX4 hown hK hP 1 rfl rfl 9 (by decide) fl43 (fun _ h9 => h9) rfl dX4_holdsLike_65 ?_
  refine lv_icmp_ne (tgt := 86) hx hb dX4_holdsLike_68 (by decide) (fun c11 => ?_) (fun c11 => ?_)
  · replace h := if_f c11 h
    refine lv_iconst (v := 0) hx hb dX4_holdsLike_86 (by decide) ?_
    simp only [Option.some.injEq] at h
    subst h
    exact hret _ _ _ _ hP hS rfl dX4_holdsLike_87
  · replace h := if_t c11 h
    refine lv_aload_n hx hb dX4_holdsLike_71 rfl (lv_at hl 0 rfl) ?_
    refine va_get (ci := 4) (v := .int it_stamps) (C := RX4) (T := TX4) (N := 15) hx hb hts hiX4 hown hK hP 0 rfl rfl 10 (by decide) fl47 (fun _ h9 => h9) rfl dX4_holdsLike_72 ?_
    refine lv_aload_n hx hb dX4_holdsLike_75 rfl (lv_at hl 1 rfl) ?_
    refine va_get (ci := 4) (v := .int is1_stamps) (C := RX4) (T := TX4) (N := 15) hx hb hts hiX4 hown hK hP 1 rfl rfl 10 (by decide) fl47 (fun _ h9 => h9) rfl dX4_holdsLike_76 ?_
    refine lv_icmp_ne (tgt := 86) hx hb dX4_holdsLike_79 (by decide) (fun c12 => ?_) (fun c12 => ?_)
    · replace h := if_f c12 h
      refine lv_iconst (v := 0) hx hb dX4_holdsLike_86 (by decide) ?_
      simp only [Option.some.injEq] at h
      subst h
      exact hret _ _ _ _ hP hS rfl dX4_holdsLike_87
    · replace h := if_t c12 h
      refine lv_iconst (v := 1) hx hb dX4_holdsLike_82 (by decide) ?_
      refine lv_goto (tgt := 87) hx hb dX4_holdsLike_83 (by decide) ?_
      simp only [Option.some.injEq] at h
      subst h
      exact hret _ _ _ _ hP hS rfl dX4_holdsLike_87
theorem hdX4_holdsLike : yX4_holdsLike.cls = RX4 ∧ yX4_holdsLike.cls ≠ "java/lang/invoke/MethodHandle" ∧ yX4_holdsLike.cls ≠ "java/lang/invoke/VarHandle" ∧ (parseMethodDescriptor yX4_holdsLike.desc).map (fun d => d.parameters.length) = some 1 := by decide +kernel

noncomputable def fX4_addKick (N : Nat) (ft_kicks : Nat → Int32) (ft_kickCount : Nat → Int32) (x1 : Int32) (x2 : Int32) : Option ((Nat → Int32) × (Nat → Int32)) := ck x1 5 (lt ((((ft_kicks (Int32.toNatClampNeg x1)) <<< (1 &&& 31)) ||| x2) &&& 63) fun n2 => lt ((if ((ft_kickCount (Int32.toNatClampNeg x1)) + 1) < 6 then ((ft_kickCount (Int32.toNatClampNeg x1)) + 1) else 6)) fun n3 => some (upd ft_kicks (Int32.toNatClampNeg x1) n2, upd ft_kickCount (Int32.toNatClampNeg x1) n3))
set_option maxHeartbeats 4000000 in
set_option maxRecDepth 100000 in
theorem ctX4_addKick (l : Launch) (D : va_G) (cI cZ cB cS : ClassId) (kK kV : Nat → Nat) (sz : Nat) (qt qt_tube qt_goods qt_stick qt_kicks qt_kickCount qt_low qt_high qt_price qt_wired : Nat) (it_lost : Int32) (it_stamps : Int32) (it_sales : Int32) (it_damp : Int32) (it_worn : Int32) (it_seed : Int32) (ft_kicks : Nat → Int32) (ft_kickCount : Nat → Int32) (x1 : Int32) (x2 : Int32) (N : Nat) (w_ft_kicks : Nat → Int32) (w_ft_kickCount : Nat → Int32) (h : fX4_addKick N ft_kicks ft_kickCount x1 x2 = some (w_ft_kicks, w_ft_kickCount)) : CtV l yX4_addKick wsX4_addKick { frames := 1, cells := 0, slots := 0, locals := 21 } D (TY cI cZ cB cS) kK kV [.ref qt, .int x1, .int x2] [(qt, .inr (4, [.ref qt_tube, .ref qt_goods, .ref qt_stick, .ref qt_kicks, .ref qt_kickCount, .ref qt_low, .ref qt_high, .ref qt_price, .ref qt_wired, .int it_lost, .int it_stamps, .int it_sales, .int it_damp, .int it_worn, .int it_seed])), (qt_kicks, .inl (cI, 5, .inl ft_kicks)), (qt_kickCount, .inl (cI, 5, .inl ft_kickCount))] [(qt, .inr (4, [.ref qt_tube, .ref qt_goods, .ref qt_stick, .ref qt_kicks, .ref qt_kickCount, .ref qt_low, .ref qt_high, .ref qt_price, .ref qt_wired, .int it_lost, .int it_stamps, .int it_sales, .int it_damp, .int it_worn, .int it_seed])), (qt_kicks, .inl (cI, 5, .inl w_ft_kicks)), (qt_kickCount, .inl (cI, 5, .inl w_ft_kickCount))] sz := by
  refine mkV (cc := cX4_addKick) (maxL := 3) (own := RX4) (by decide) rfl rfl (Nat.le_of_ble_eq_true rfl) ?_
  intro p e s m args below meth c A Z ls hx hb hml hown hts hK hN hX hP hD hA hS hret hl
  have hl : lv_has ls 3 [(0, .ref qt), (1, .int x1), (2, .int x2)] := hl
  have fl21 : (Cond.fieldLink RX4 21 "SoupWall$State" "kicks" "[I").before args s = true := hts _ (List.mem_of_getElem? (l := wsX4_addKick) (i := 1) rfl)
  have hiX4 : ∀ w ∈ wsX40, w ∈ wsX4_addKick := fun w h => List.mem_cons_of_mem _ (List.mem_append_right _ h)
  have fl24 : (Cond.fieldLink RX4 24 "SoupWall$State" "kickCount" "[I").before args s = true := hts _ (List.mem_of_getElem? (l := wsX4_addKick) (i := 2) rfl)
  have ml66 : (Cond.methodLink RX4 66 Lib.Math.min.name).before args s = true := hts _ (List.mem_of_getElem? (l := wsX4_addKick) (i := 3) rfl)
  have msmin : (Cond.static Lib.Math.min.name).before args s = true := hts _ (List.mem_of_getElem? (l := wsX4_addKick) (i := 4) rfl)
  have mi : (Cond.initialized "java/lang/Math").before args s = true := hts _ (List.mem_of_getElem? (l := wsX4_addKick) (i := 5) rfl)
  have mcmin : (Cond.code Lib.Math.min.name Lib.Math.min.code 2 (some .int)).before args s = true := hts _ (List.mem_of_getElem? (l := wsX4_addKick) (i := 6) rfl)
  unfold fX4_addKick at h
  refine lv_aload_n hx hb dX4_addKick_0 rfl (lv_at hl 0 rfl) ?_
  refine va_get (ci := 4) (v := .ref qt_kicks) (C := RX4) (T := TX4) (N := 15) hx hb hts hiX4 hown hK hP 0 rfl rfl 3 (by decide) fl21 (fun _ h9 => h9) rfl dX4_addKick_1 ?_
  refine lv_iload_n hx hb dX4_addKick_4 rfl (lv_at hl 1 rfl) ?_
  refine lv_aload_n hx hb dX4_addKick_5 rfl (lv_at hl 0 rfl) ?_
  refine va_get (ci := 4) (v := .ref qt_kicks) (C := RX4) (T := TX4) (N := 15) hx hb hts hiX4 hown hK hP 0 rfl rfl 3 (by decide) fl21 (fun _ h9 => h9) rfl dX4_addKick_6 ?_
  refine lv_iload_n hx hb dX4_addKick_9 rfl (lv_at hl 1 rfl) ?_
  replace h := ck_el h
  obtain ⟨hi1, h⟩ := h
  refine va_iald hx hb hK hP 1 0 rfl rfl hi1 dX4_addKick_10 ?_
  refine lv_iconst (v := 1) hx hb dX4_addKick_11 (by decide) ?_
  refine lv_ishl hx hb dX4_addKick_12 ?_
  refine lv_iload_n hx hb dX4_addKick_13 rfl (lv_at hl 2 rfl) ?_
  refine lv_ior hx hb dX4_addKick_14 ?_
  refine lv_bipush (v := 63) hx hb dX4_addKick_15 (by decide) ?_
  refine lv_iand hx hb dX4_addKick_17 ?_
  refine lv_topi (fun n2 en2 => ?_)
  replace h := lt_at en2 h
  refine va_iast hx hb hK hP (dF hD rfl) hS 1 0 rfl rfl hi1 dX4_addKick_18 (fun H locs hP _ hS => ?_)
  replace hP : va_P D vwCl [(qt, .inr (4, [.ref qt_tube, .ref qt_goods, .ref qt_stick, .ref qt_kicks, .ref qt_kickCount, .ref qt_low, .ref qt_high, .ref qt_price, .ref qt_wired, .int it_lost, .int it_stamps, .int it_sales, .int it_damp, .int it_worn, .int it_seed])), (qt_kicks, .inl (cI, 5, .inl (upd ft_kicks (Int32.toNatClampNeg x1) n2))), (qt_kickCount, .inl (cI, 5, .inl ft_kickCount))] H := hP
  refine lv_aload_n hx hb dX4_addKick_19 rfl (lv_at hl 0 rfl) ?_
  refine va_get (ci := 4) (v := .ref qt_kickCount) (C := RX4) (T := TX4) (N := 15) hx hb hts hiX4 hown hK hP 0 rfl rfl 4 (by decide) fl24 (fun _ h9 => h9) rfl dX4_addKick_20 ?_
  refine lv_iload_n hx hb dX4_addKick_23 rfl (lv_at hl 1 rfl) ?_
  refine lv_bipush (v := 6) hx hb dX4_addKick_24 (by decide) ?_
  refine lv_aload_n hx hb dX4_addKick_26 rfl (lv_at hl 0 rfl) ?_
  refine va_get (ci := 4) (v := .ref qt_kickCount) (C := RX4) (T := TX4) (N := 15) hx hb hts hiX4 hown hK hP 0 rfl rfl 4 (by decide) fl24 (fun _ h9 => h9) rfl dX4_addKick_27 ?_
  refine lv_iload_n hx hb dX4_addKick_30 rfl (lv_at hl 1 rfl) ?_
  refine va_iald hx hb hK hP 2 0 rfl rfl hi1 dX4_addKick_31 ?_
  refine lv_iconst (v := 1) hx hb dX4_addKick_32 (by decide) ?_
  refine lv_iadd hx hb dX4_addKick_33 ?_
  refine va_mmin hx hb (hml.trans hl.1.symm) hown ml66 msmin mi mcmin (Nat.le_of_ble_eq_true rfl) (Nat.le_of_ble_eq_true rfl) (Nat.zero_le _) (Nat.zero_le _) dX4_addKick_34 ?_
  refine lv_topi (fun n3 en3 => ?_)
  replace h := lt_at en3 h
  refine va_iast hx hb hK hP (dF hD rfl) hS 2 0 rfl rfl hi1 dX4_addKick_37 (fun H locs hP _ hS => ?_)
  replace hP : va_P D vwCl [(qt, .inr (4, [.ref qt_tube, .ref qt_goods, .ref qt_stick, .ref qt_kicks, .ref qt_kickCount, .ref qt_low, .ref qt_high, .ref qt_price, .ref qt_wired, .int it_lost, .int it_stamps, .int it_sales, .int it_damp, .int it_worn, .int it_seed])), (qt_kicks, .inl (cI, 5, .inl (upd ft_kicks (Int32.toNatClampNeg x1) n2))), (qt_kickCount, .inl (cI, 5, .inl (upd ft_kickCount (Int32.toNatClampNeg x1) n3)))] H := hP
  simp only [Option.some.injEq, Prod.mk.injEq] at h
  obtain ⟨rfl, rfl⟩ := h
  exact hret _ _ _ _ hP hS dX4_addKick_38
theorem hdX4_addKick : yX4_addKick.cls = RX4 ∧ yX4_addKick.cls ≠ "java/lang/invoke/MethodHandle" ∧ yX4_addKick.cls ≠ "java/lang/invoke/VarHandle" ∧ (parseMethodDescriptor yX4_addKick.desc).map (fun d => d.parameters.length) = some 2 := by decide +kernel

noncomputable def fX4_cheatOf (N : Nat) (ft_price : Nat → Int32) (ft_wired : Nat → Int32) (x1 : Int32) : Option (Int32) := ck x1 5 (ck (ft_wired (Int32.toNatClampNeg x1)) 5 (lt ((ft_price (Int32.toNatClampNeg (ft_wired (Int32.toNatClampNeg x1)))) - (ft_price (Int32.toNatClampNeg x1))) fun n3 => some n3))
set_option maxHeartbeats 4000000 in
set_option maxRecDepth 100000 in
theorem ctX4_cheatOf (l : Launch) (D : va_G) (cI cZ cB cS : ClassId) (kK kV : Nat → Nat) (sz : Nat) (qt qt_tube qt_goods qt_stick qt_kicks qt_kickCount qt_low qt_high qt_price qt_wired : Nat) (it_lost : Int32) (it_stamps : Int32) (it_sales : Int32) (it_damp : Int32) (it_worn : Int32) (it_seed : Int32) (ft_price : Nat → Int32) (ft_wired : Nat → Int32) (x1 : Int32) (N : Nat) (r0 : Int32)  (h : fX4_cheatOf N ft_price ft_wired x1 = some r0) : CtI l yX4_cheatOf wsX4_cheatOf { frames := 0, cells := 0, slots := 0, locals := 0 } D (TY cI cZ cB cS) kK kV [.ref qt, .int x1] [(qt, .inr (4, [.ref qt_tube, .ref qt_goods, .ref qt_stick, .ref qt_kicks, .ref qt_kickCount, .ref qt_low, .ref qt_high, .ref qt_price, .ref qt_wired, .int it_lost, .int it_stamps, .int it_sales, .int it_damp, .int it_worn, .int it_seed])), (qt_price, .inl (cI, 5, .inl ft_price)), (qt_wired, .inl (cI, 5, .inl ft_wired))] [(qt, .inr (4, [.ref qt_tube, .ref qt_goods, .ref qt_stick, .ref qt_kicks, .ref qt_kickCount, .ref qt_low, .ref qt_high, .ref qt_price, .ref qt_wired, .int it_lost, .int it_stamps, .int it_sales, .int it_damp, .int it_worn, .int it_seed])), (qt_price, .inl (cI, 5, .inl ft_price)), (qt_wired, .inl (cI, 5, .inl ft_wired))] sz r0 := by
  refine mkI (cc := cX4_cheatOf) (maxL := 2) (rt := .int) (own := RX4) (by decide) rfl rfl (Nat.le_of_ble_eq_true rfl) ?_
  intro p e s m args below meth c A Z ls hx hb hml hown hts hK hN hX hP hD hA hS hret hl
  have hl : lv_has ls 2 [(0, .ref qt), (1, .int x1)] := hl
  have fl33 : (Cond.fieldLink RX4 33 "SoupWall$State" "price" "[I").before args s = true := hts _ (List.mem_of_getElem? (l := wsX4_cheatOf) (i := 1) rfl)
  have hiX4 : ∀ w ∈ wsX40, w ∈ wsX4_cheatOf := fun w h => List.mem_cons_of_mem _ (List.mem_append_right _ h)
  have fl36 : (Cond.fieldLink RX4 36 "SoupWall$State" "wired" "[I").before args s = true := hts _ (List.mem_of_getElem? (l := wsX4_cheatOf) (i := 2) rfl)
  unfold fX4_cheatOf at h
  refine lv_aload_n hx hb dX4_cheatOf_0 rfl (lv_at hl 0 rfl) ?_
  refine va_get (ci := 4) (v := .ref qt_price) (C := RX4) (T := TX4) (N := 15) hx hb hts hiX4 hown hK hP 0 rfl rfl 7 (by decide) fl33 (fun _ h9 => h9) rfl dX4_cheatOf_1 ?_
  refine lv_aload_n hx hb dX4_cheatOf_4 rfl (lv_at hl 0 rfl) ?_
  refine va_get (ci := 4) (v := .ref qt_wired) (C := RX4) (T := TX4) (N := 15) hx hb hts hiX4 hown hK hP 0 rfl rfl 8 (by decide) fl36 (fun _ h9 => h9) rfl dX4_cheatOf_5 ?_
  refine lv_iload_n hx hb dX4_cheatOf_8 rfl (lv_at hl 1 rfl) ?_
  replace h := ck_el h
  obtain ⟨hi1, h⟩ := h
  refine va_iald hx hb hK hP 2 0 rfl rfl hi1 dX4_cheatOf_9 ?_
  replace h := ck_el h
  obtain ⟨hi2, h⟩ := h
  refine va_iald hx hb hK hP 1 0 rfl rfl hi2 dX4_cheatOf_10 ?_
  refine lv_aload_n hx hb dX4_cheatOf_11 rfl (lv_at hl 0 rfl) ?_
  refine va_get (ci := 4) (v := .ref qt_price) (C := RX4) (T := TX4) (N := 15) hx hb hts hiX4 hown hK hP 0 rfl rfl 7 (by decide) fl33 (fun _ h9 => h9) rfl dX4_cheatOf_12 ?_
  refine lv_iload_n hx hb dX4_cheatOf_15 rfl (lv_at hl 1 rfl) ?_
  refine va_iald hx hb hK hP 1 0 rfl rfl hi1 dX4_cheatOf_16 ?_
  refine lv_isub hx hb dX4_cheatOf_17 ?_
  refine lv_topi (fun n3 en3 => ?_)
  replace h := lt_at en3 h
  simp only [Option.some.injEq] at h
  subst h
  exact hret _ _ _ _ hP hS rfl dX4_cheatOf_18
theorem hdX4_cheatOf : yX4_cheatOf.cls = RX4 ∧ yX4_cheatOf.cls ≠ "java/lang/invoke/MethodHandle" ∧ yX4_cheatOf.cls ≠ "java/lang/invoke/VarHandle" ∧ (parseMethodDescriptor yX4_cheatOf.desc).map (fun d => d.parameters.length) = some 1 := by decide +kernel

noncomputable def fX4_draw (N : Nat) (it_seed : Int32) (x1 : Int32) : Option (Int32 × Int32) := lt (Int64.toInt32 ((((Int32.toInt64 it_seed) * 1103515245) + 12345) &&& 2147483647)) fun n1 => (if x1 ≤ 0 then some (0, n1) else nz x1 (lt ((n1 / 65536) - (n1 / 65536) / x1 * x1) fun n4 => some (n4, n1)))
set_option maxHeartbeats 4000000 in
set_option maxRecDepth 100000 in
theorem ctX4_draw (l : Launch) (D : va_G) (cI cZ cB cS : ClassId) (kK kV : Nat → Nat) (sz : Nat) (qt qt_tube qt_goods qt_stick qt_kicks qt_kickCount qt_low qt_high qt_price qt_wired : Nat) (it_lost : Int32) (it_stamps : Int32) (it_sales : Int32) (it_damp : Int32) (it_worn : Int32) (it_seed : Int32) (x1 : Int32) (N : Nat) (r0 : Int32) (w_it_seed : Int32) (h : fX4_draw N it_seed x1 = some (r0, w_it_seed)) : CtI l yX4_draw wsX4_draw { frames := 0, cells := 0, slots := 0, locals := 0 } D (TY cI cZ cB cS) kK kV [.ref qt, .int x1] [(qt, .inr (4, [.ref qt_tube, .ref qt_goods, .ref qt_stick, .ref qt_kicks, .ref qt_kickCount, .ref qt_low, .ref qt_high, .ref qt_price, .ref qt_wired, .int it_lost, .int it_stamps, .int it_sales, .int it_damp, .int it_worn, .int it_seed]))] [(qt, .inr (4, [.ref qt_tube, .ref qt_goods, .ref qt_stick, .ref qt_kicks, .ref qt_kickCount, .ref qt_low, .ref qt_high, .ref qt_price, .ref qt_wired, .int it_lost, .int it_stamps, .int it_sales, .int it_damp, .int it_worn, .int w_it_seed]))] sz r0 := by
  refine mkI (cc := cX4_draw) (maxL := 2) (rt := .int) (own := RX4) (by decide) rfl rfl (Nat.le_of_ble_eq_true rfl) ?_
  intro p e s m args below meth c A Z ls hx hb hml hown hts hK hN hX hP hD hA hS hret hl
  have hl : lv_has ls 2 [(0, .ref qt), (1, .int x1)] := hl
  have fl59 : (Cond.fieldLink RX4 59 "SoupWall$State" "seed" "I").before args s = true := hts _ (List.mem_of_getElem? (l := wsX4_draw) (i := 1) rfl)
  have hiX4 : ∀ w ∈ wsX40, w ∈ wsX4_draw := fun w h => List.mem_cons_of_mem _ (List.mem_append_right _ h)
  have cn76 : (Cond.constantLong RX4 76 (1103515245)).before args s = true := hts _ (List.mem_of_getElem? (l := wsX4_draw) (i := 2) rfl)
  have cn78 : (Cond.constantLong RX4 78 (12345)).before args s = true := hts _ (List.mem_of_getElem? (l := wsX4_draw) (i := 3) rfl)
  have cn80 : (Cond.constantLong RX4 80 (2147483647)).before args s = true := hts _ (List.mem_of_getElem? (l := wsX4_draw) (i := 4) rfl)
  have cn82 : (Cond.constant RX4 82 (65536)).before args s = true := hts _ (List.mem_of_getElem? (l := wsX4_draw) (i := 5) rfl)
  unfold fX4_draw at h
  refine lv_aload_n hx hb dX4_draw_0 rfl (lv_at hl 0 rfl) ?_
  refine lv_aload_n hx hb dX4_draw_1 rfl (lv_at hl 0 rfl) ?_
  refine va_get (ci := 4) (v := .int it_seed) (C := RX4) (T := TX4) (N := 15) hx hb hts hiX4 hown hK hP 0 rfl rfl 14 (by decide) fl59 (fun _ h9 => h9) rfl dX4_draw_2 ?_
  refine lv_i2l (v := Int32.toInt64 it_seed) hx hb dX4_draw_5 rfl ?_
  refine lv_ldc2 (v := 1103515245) hx hb hown cn76 dX4_draw_6 ?_
  refine lv_lmul hx hb dX4_draw_9 ?_
  refine lv_ldc2 (v := 12345) hx hb hown cn78 dX4_draw_10 ?_
  refine lv_ladd hx hb dX4_draw_13 ?_
  refine lv_ldc2 (v := 2147483647) hx hb hown cn80 dX4_draw_14 ?_
  refine lv_land hx hb dX4_draw_17 ?_
  refine lv_l2i (v := Int64.toInt32 ((((Int32.toInt64 it_seed) * 1103515245) + 12345) &&& 2147483647)) hx hb dX4_draw_18 rfl ?_
  refine lv_topi (fun n1 en1 => ?_)
  replace h := lt_at en1 h
  refine va_put (ci := 4) (v := .int n1) (ty := .int) (C := RX4) (T := TX4) (N := 15) hx hb hts hiX4 tyX4 tyX4_ok nmX4 hown hK hP (dF hD rfl) hS 0 rfl rfl 14 (by decide) fl59 (fun _ h9 => h9) rfl (by decide +kernel) rfl rfl (Nat.le_of_ble_eq_true rfl) dX4_draw_19 (fun H locs hP _ hS => ?_)
  replace hP : va_P D vwCl [(qt, .inr (4, [.ref qt_tube, .ref qt_goods, .ref qt_stick, .ref qt_kicks, .ref qt_kickCount, .ref qt_low, .ref qt_high, .ref qt_price, .ref qt_wired, .int it_lost, .int it_stamps, .int it_sales, .int it_damp, .int it_worn, .int n1]))] H := hP
  refine lv_iload_n hx hb dX4_draw_22 rfl (lv_at hl 1 rfl) ?_
  refine lv_if_le (tgt := 38) hx hb dX4_draw_23 (by decide) (fun c2 => ?_) (fun c2 => ?_)
  · replace h := if_t c2 h
    refine lv_iconst (v := 0) hx hb dX4_draw_38 (by decide) ?_
    simp only [Option.some.injEq, Prod.mk.injEq] at h
    obtain ⟨rfl, rfl⟩ := h
    exact hret _ _ _ _ hP hS rfl dX4_draw_39
  · replace h := if_f c2 h
    refine lv_aload_n hx hb dX4_draw_26 rfl (lv_at hl 0 rfl) ?_
    refine va_get (ci := 4) (v := .int n1) (C := RX4) (T := TX4) (N := 15) hx hb hts hiX4 hown hK hP 0 rfl rfl 14 (by decide) fl59 (fun _ h9 => h9) rfl dX4_draw_27 ?_
    refine lv_ldc (v := 65536) hx hb hown cn82 dX4_draw_30 ?_
    refine lv_idiv hx hb dX4_draw_32 (by decide) ?_
    refine lv_iload_n hx hb dX4_draw_33 rfl (lv_at hl 1 rfl) ?_
    replace h := nz_el h
    obtain ⟨hz3, h⟩ := h
    refine lv_irem hx hb dX4_draw_34 hz3 ?_
    refine lv_goto (tgt := 39) hx hb dX4_draw_35 (by decide) ?_
    refine lv_topi (fun n4 en4 => ?_)
    replace h := lt_at en4 h
    simp only [Option.some.injEq, Prod.mk.injEq] at h
    obtain ⟨rfl, rfl⟩ := h
    exact hret _ _ _ _ hP hS rfl dX4_draw_39
theorem hdX4_draw : yX4_draw.cls = RX4 ∧ yX4_draw.cls ≠ "java/lang/invoke/MethodHandle" ∧ yX4_draw.cls ≠ "java/lang/invoke/VarHandle" ∧ (parseMethodDescriptor yX4_draw.desc).map (fun d => d.parameters.length) = some 1 := by decide +kernel
