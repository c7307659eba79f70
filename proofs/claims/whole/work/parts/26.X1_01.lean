noncomputable def fX1_sell (N : Nat) (it_kinds : Int32) (is1_lost : Int32) (is1_stamps : Int32) (is1_sales : Int32) (is1_damp : Int32) (is1_worn : Int32) (ft_value : Nat → Int32) (fs1_price : Nat → Int32) (fs1_wired : Nat → Int32) (fs1_stick : Nat → Int32) (ft_weight : Nat → Int32) (fs1_low : Nat → Int32) (fs1_high : Nat → Int32) (fs1_goods : Nat → Int32) (fs1_tube : Nat → Int32) (ft_paidBy : Nat → Int32) (x2 : Int32) (x3 : Int32) (x4 : Int32) : Option (Int32 × Int32 × Int32 × Int32 × (Nat → Int32) × (Nat → Int32) × (Nat → Int32)) := bd (fX1_changeOf N ft_value fs1_price x2 x3 x4) fun r1 => ck x2 5 (lt (fs1_wired (Int32.toNatClampNeg x2)) fun n4 => bd (fX4_isJammed N fs1_stick x2) fun r5 => (if r5 = 0 then bd (fX1_passes N is1_worn ft_weight fs1_low fs1_high x2 x3) fun r8 => (if r8 = 0 then some ((-1000000003), is1_lost, is1_stamps, is1_sales, fs1_stick, fs1_goods, fs1_tube) else (if r1 < 0 then some ((-1000000003), is1_lost, is1_stamps, is1_sales, fs1_stick, fs1_goods, fs1_tube) else ck n4 5 ((if (fs1_goods (Int32.toNatClampNeg n4)) = 0 then some ((-1000000003), is1_lost, is1_stamps, is1_sales, fs1_stick, fs1_goods, fs1_tube) else lt ((fs1_goods (Int32.toNatClampNeg n4)) - 1) fun n14 => bd (fX4_takeIn N is1_lost fs1_tube x3 x4) fun (g15, g16) => bd (fX1_payBack N it_kinds g16 ft_paidBy ft_value r1) fun (r18, g19) => lt ((if ((is1_stamps + r1) - r18) < 999999999 then ((is1_stamps + r1) - r18) else 999999999)) fun n21 => lt ((if (is1_sales + 1) < 999999999 then (is1_sales + 1) else 999999999)) fun n22 => lt ((fs1_stick (Int32.toNatClampNeg x2)) + (is1_damp * x4)) fun n23 => some (r18, g15, n21, n22, upd fs1_stick (Int32.toNatClampNeg x2) n23, upd fs1_goods (Int32.toNatClampNeg n4) n14, g19))))) else some ((-1000000003), is1_lost, is1_stamps, is1_sales, fs1_stick, fs1_goods, fs1_tube)))
set_option maxHeartbeats 4000000 in
set_option maxRecDepth 100000 in
theorem ctX1_sell (l : Launch) (D : va_G) (cI cZ cB cS : ClassId) (kK kV : Nat → Nat) (sz : Nat) (qt qt_value qt_weight qt_slugWeight qt_rhythm qt_rhythmLength qt_paidBy qs1 qs1_tube qs1_goods qs1_stick qs1_kicks qs1_kickCount qs1_low qs1_high qs1_price qs1_wired : Nat) (it_kinds : Int32) (it_columns : Int32) (it_slugs : Int32) (is1_lost : Int32) (is1_stamps : Int32) (is1_sales : Int32) (is1_damp : Int32) (is1_worn : Int32) (is1_seed : Int32) (ft_value : Nat → Int32) (fs1_price : Nat → Int32) (fs1_wired : Nat → Int32) (fs1_stick : Nat → Int32) (ft_weight : Nat → Int32) (fs1_low : Nat → Int32) (fs1_high : Nat → Int32) (fs1_goods : Nat → Int32) (fs1_tube : Nat → Int32) (ft_paidBy : Nat → Int32) (x2 : Int32) (x3 : Int32) (x4 : Int32) (N : Nat) (r0 : Int32) (w_is1_lost : Int32) (w_is1_stamps : Int32) (w_is1_sales : Int32) (w_fs1_stick : Nat → Int32) (w_fs1_goods : Nat → Int32) (w_fs1_tube : Nat → Int32) (h : fX1_sell N it_kinds is1_lost is1_stamps is1_sales is1_damp is1_worn ft_value fs1_price fs1_wired fs1_stick ft_weight fs1_low fs1_high fs1_goods fs1_tube ft_paidBy x2 x3 x4 = some (r0, w_is1_lost, w_is1_stamps, w_is1_sales, w_fs1_stick, w_fs1_goods, w_fs1_tube)) : CtI l yX1_sell wsX1_sell { frames := 2, cells := 0, slots := 0, locals := 47 } D (TY cI cZ cB cS) kK kV [.ref qt, .ref qs1, .int x2, .int x3, .int x4] [(qt, .inr (1, [.ref qt_value, .ref qt_weight, .ref qt_slugWeight, .ref qt_rhythm, .ref qt_rhythmLength, .ref qt_paidBy, .int it_kinds, .int it_columns, .int it_slugs])), (qs1, .inr (4, [.ref qs1_tube, .ref qs1_goods, .ref qs1_stick, .ref qs1_kicks, .ref qs1_kickCount, .ref qs1_low, .ref qs1_high, .ref qs1_price, .ref qs1_wired, .int is1_lost, .int is1_stamps, .int is1_sales, .int is1_damp, .int is1_worn, .int is1_seed])), (qt_value, .inl (cI, 5, .inl ft_value)), (qs1_price, .inl (cI, 5, .inl fs1_price)), (qs1_wired, .inl (cI, 5, .inl fs1_wired)), (qs1_stick, .inl (cI, 5, .inl fs1_stick)), (qt_weight, .inl (cI, 5, .inl ft_weight)), (qs1_low, .inl (cI, 5, .inl fs1_low)), (qs1_high, .inl (cI, 5, .inl fs1_high)), (qs1_goods, .inl (cI, 5, .inl fs1_goods)), (qs1_tube, .inl (cI, 5, .inl fs1_tube)), (qt_paidBy, .inl (cI, 5, .inl ft_paidBy))] [(qt, .inr (1, [.ref qt_value, .ref qt_weight, .ref qt_slugWeight, .ref qt_rhythm, .ref qt_rhythmLength, .ref qt_paidBy, .int it_kinds, .int it_columns, .int it_slugs])), (qs1, .inr (4, [.ref qs1_tube, .ref qs1_goods, .ref qs1_stick, .ref qs1_kicks, .ref qs1_kickCount, .ref qs1_low, .ref qs1_high, .ref qs1_price, .ref qs1_wired, .int w_is1_lost, .int w_is1_stamps, .int w_is1_sales, .int is1_damp, .int is1_worn, .int is1_seed])), (qt_value, .inl (cI, 5, .inl ft_value)), (qs1_price, .inl (cI, 5, .inl fs1_price)), (qs1_wired, .inl (cI, 5, .inl fs1_wired)), (qs1_stick, .inl (cI, 5, .inl w_fs1_stick)), (qt_weight, .inl (cI, 5, .inl ft_weight)), (qs1_low, .inl (cI, 5, .inl fs1_low)), (qs1_high, .inl (cI, 5, .inl fs1_high)), (qs1_goods, .inl (cI, 5, .inl w_fs1_goods)), (qs1_tube, .inl (cI, 5, .inl w_fs1_tube)), (qt_paidBy, .inl (cI, 5, .inl ft_paidBy))] sz r0 := by
  refine mkI (cc := cX1_sell) (maxL := 8) (rt := .int) (own := RX1) (by decide) rfl rfl (Nat.le_of_ble_eq_true rfl) ?_
  intro p e s m args below meth c A Z ls hx hb hml hown hts hK hN hX hP hD hA hS hret hl
  have hl : lv_has ls 8 [(0, .ref qt), (1, .ref qs1), (2, .int x2), (3, .int x3), (4, .int x4)] := hl
  have fl73 : (Cond.fieldLinkNest "SoupWall$Plan" 73 "SoupWall$State" "wired" "[I" "SoupWall").before args s = true := hN.f 26 rfl
  have hiX4 : ∀ w ∈ wsX40, w ∈ wsX1_sell := fun w h => List.mem_cons_of_mem _ (List.mem_append_left _ (List.mem_append_right _ h))
  have cn82 : (Cond.constant RX1 82 (-1000000003)).before args s = true := hts _ (List.mem_of_getElem? (l := wsX1_sell) (i := 1) rfl)
  have fl79 : (Cond.fieldLinkNest "SoupWall$Plan" 79 "SoupWall$State" "goods" "[I" "SoupWall").before args s = true := hN.f 14 rfl
  have fl63 : (Cond.fieldLinkNest "SoupWall$Plan" 63 "SoupWall$State" "tube" "[I" "SoupWall").before args s = true := hN.f 12 rfl
  have cn91 : (Cond.constant RX1 91 (999999999)).before args s = true := hts _ (List.mem_of_getElem? (l := wsX1_sell) (i := 2) rfl)
  have fl92 : (Cond.fieldLinkNest "SoupWall$Plan" 92 "SoupWall$State" "stamps" "I" "SoupWall").before args s = true := hN.f 29 rfl
  have ml95 : (Cond.methodLink RX1 95 Lib.Math.min.name).before args s = true := hts _ (List.mem_of_getElem? (l := wsX1_sell) (i := 3) rfl)
  have msmin : (Cond.static Lib.Math.min.name).before args s = true := hts _ (List.mem_of_getElem? (l := wsX1_sell) (i := 4) rfl)
  have mi : (Cond.initialized "java/lang/Math").before args s = true := hts _ (List.mem_of_getElem? (l := wsX1_sell) (i := 5) rfl)
  have mcmin : (Cond.code Lib.Math.min.name Lib.Math.min.code 2 (some .int)).before args s = true := hts _ (List.mem_of_getElem? (l := wsX1_sell) (i := 6) rfl)
  have fl101 : (Cond.fieldLinkNest "SoupWall$Plan" 101 "SoupWall$State" "sales" "I" "SoupWall").before args s = true := hN.f 31 rfl
  have fl104 : (Cond.fieldLinkNest "SoupWall$Plan" 104 "SoupWall$State" "stick" "[I" "SoupWall").before args s = true := hN.f 16 rfl
  have fl107 : (Cond.fieldLinkNest "SoupWall$Plan" 107 "SoupWall$State" "damp" "I" "SoupWall").before args s = true := hN.f 33 rfl
  unfold fX1_sell at h
  refine lv_aload_n hx hb dX1_sell_0 rfl (lv_at hl 0 rfl) ?_
  refine lv_aload_n hx hb dX1_sell_1 rfl (lv_at hl 1 rfl) ?_
  refine lv_iload_n hx hb dX1_sell_2 rfl (lv_at hl 2 rfl) ?_
  refine lv_iload_n hx hb dX1_sell_3 rfl (lv_at hl 3 rfl) ?_
  refine lv_iload hx hb dX1_sell_4 (lv_at hl 4 rfl) ?_
  replace h := bd_el h
  obtain ⟨r1, hc2, h⟩ := h
  refine callVI (rest := []) ⟨hx, hb, hml, hown, hts⟩ (ctX1_changeOf l D cI cZ cB cS kK kV _ qt qt_value qt_weight qt_slugWeight qt_rhythm qt_rhythmLength qt_paidBy qs1 qs1_tube qs1_goods qs1_stick qs1_kicks qs1_kickCount qs1_low qs1_high qs1_price qs1_wired it_kinds it_columns it_slugs is1_lost is1_stamps is1_sales is1_damp is1_worn is1_seed ft_value fs1_price x2 x3 x4 N r1 hc2) (cwV 4 hts gX1_sell_X1_changeOf rfl rfl rfl hdX1_changeOf ⟨Nat.le_of_ble_eq_true rfl, Nat.le_of_ble_eq_true rfl⟩) hK hN hX hP (dF hD rfl) hS hA [0, 1, 2, 3] (mcC rfl (mcC rfl (mcC rfl (mcC rfl mcN)))) (by decide +kernel) [(qt, .inr (1, [.ref qt_value, .ref qt_weight, .ref qt_slugWeight, .ref qt_rhythm, .ref qt_rhythmLength, .ref qt_paidBy, .int it_kinds, .int it_columns, .int it_slugs])), (qs1, .inr (4, [.ref qs1_tube, .ref qs1_goods, .ref qs1_stick, .ref qs1_kicks, .ref qs1_kickCount, .ref qs1_low, .ref qs1_high, .ref qs1_price, .ref qs1_wired, .int is1_lost, .int is1_stamps, .int is1_sales, .int is1_damp, .int is1_worn, .int is1_seed])), (qt_value, .inl (cI, 5, .inl ft_value)), (qs1_price, .inl (cI, 5, .inl fs1_price)), (qs1_wired, .inl (cI, 5, .inl fs1_wired)), (qs1_stick, .inl (cI, 5, .inl fs1_stick)), (qt_weight, .inl (cI, 5, .inl ft_weight)), (qs1_low, .inl (cI, 5, .inl fs1_low)), (qs1_high, .inl (cI, 5, .inl fs1_high)), (qs1_goods, .inl (cI, 5, .inl fs1_goods)), (qs1_tube, .inl (cI, 5, .inl fs1_tube)), (qt_paidBy, .inl (cI, 5, .inl ft_paidBy))] [4, 5, 6, 7, 8, 9, 10, 11] (mcC rfl (mcC rfl (mcC rfl (mcC rfl mcN)))) ((mcC rfl (mcC rfl (mcC rfl (mcC rfl (mcC rfl (mcC rfl (mcC rfl (mcC rfl mcN)))))))).trans (mcC rfl (mcC rfl (mcC rfl (mcC rfl (mcC rfl (mcC rfl (mcC rfl (mcC rfl mcN)))))))).symm) 12 rfl (by decide +kernel) (va_recv hK hP (ci := 1) (q0 := 0) rfl rfl) rfl hl.1 rfl (Nat.le_of_ble_eq_true rfl) ⟨Nat.zero_le _, Nat.zero_le _⟩ dX1_sell_6 (fun H locs hP hS => ?_)
  refine lv_istore (lv' := [(5, .int r1), (0, .ref qt), (1, .ref qs1), (2, .int x2), (3, .int x3), (4, .int x4)]) hx hb dX1_sell_9 hl (by decide) rfl (fun ls hl => ?_)
  refine lv_aload_n hx hb dX1_sell_11 rfl (lv_at hl 2 rfl) ?_
  refine va_getN (ci := 4) (v := .ref qs1_wired) (C := RX4) (T := TX4) (N := 15) hx hb hts hiX4 hown hK hP 1 rfl rfl 8 (by decide) fl73 (fun _ h9 => h9) rfl dX1_sell_12 ?_
  refine lv_iload_n hx hb dX1_sell_15 rfl (lv_at hl 3 rfl) ?_
  replace h := ck_el h
  obtain ⟨hi3, h⟩ := h
  refine va_iald hx hb hK hP 4 0 rfl rfl hi3 dX1_sell_16 ?_
  refine lv_topi (fun n4 en4 => ?_)
  replace h := lt_at en4 h
  refine lv_istore (lv' := [(6, .int n4), (5, .int r1), (0, .ref qt), (1, .ref qs1), (2, .int x2), (3, .int x3), (4, .int x4)]) hx hb dX1_sell_17 hl (by decide) rfl (fun ls hl => ?_)
  refine lv_aload_n hx hb dX1_sell_19 rfl (lv_at hl 3 rfl) ?_
  refine lv_iload_n hx hb dX1_sell_20 rfl (lv_at hl 4 rfl) ?_
  replace h := bd_el h
  obtain ⟨r5, hc6, h⟩ := h
  refine callVI (rest := []) ⟨hx, hb, hml, hown, hts⟩ (ctX4_isJammed l D cI cZ cB cS kK kV _ qs1 qs1_tube qs1_goods qs1_stick qs1_kicks qs1_kickCount qs1_low qs1_high qs1_price qs1_wired is1_lost is1_stamps is1_sales is1_damp is1_worn is1_seed fs1_stick x2 N r5 hc6) (cwV 1 hts gX1_sell_X4_isJammed rfl rfl rfl hdX4_isJammed ⟨Nat.le_of_ble_eq_true rfl, Nat.le_of_ble_eq_true rfl⟩) hK hN hX hP (dF hD rfl) hS hA [1, 5] (mcC rfl (mcC rfl mcN)) (by decide +kernel) [(qt, .inr (1, [.ref qt_value, .ref qt_weight, .ref qt_slugWeight, .ref qt_rhythm, .ref qt_rhythmLength, .ref qt_paidBy, .int it_kinds, .int it_columns, .int it_slugs])), (qs1, .inr (4, [.ref qs1_tube, .ref qs1_goods, .ref qs1_stick, .ref qs1_kicks, .ref qs1_kickCount, .ref qs1_low, .ref qs1_high, .ref qs1_price, .ref qs1_wired, .int is1_lost, .int is1_stamps, .int is1_sales, .int is1_damp, .int is1_worn, .int is1_seed])), (qt_value, .inl (cI, 5, .inl ft_value)), (qs1_price, .inl (cI, 5, .inl fs1_price)), (qs1_wired, .inl (cI, 5, .inl fs1_wired)), (qs1_stick, .inl (cI, 5, .inl fs1_stick)), (qt_weight, .inl (cI, 5, .inl ft_weight)), (qs1_low, .inl (cI, 5, .inl fs1_low)), (qs1_high, .inl (cI, 5, .inl fs1_high)), (qs1_goods, .inl (cI, 5, .inl fs1_goods)), (qs1_tube, .inl (cI, 5, .inl fs1_tube)), (qt_paidBy, .inl (cI, 5, .inl ft_paidBy))] [0, 2, 3, 4, 6, 7, 8, 9, 10, 11] (mcC rfl (mcC rfl mcN)) ((mcC rfl (mcC rfl (mcC rfl (mcC rfl (mcC rfl (mcC rfl (mcC rfl (mcC rfl (mcC rfl (mcC rfl mcN)))))))))).trans (mcC rfl (mcC rfl (mcC rfl (mcC rfl (mcC rfl (mcC rfl (mcC rfl (mcC rfl (mcC rfl (mcC rfl mcN)))))))))).symm) 12 rfl (by decide +kernel) (va_recv hK hP (ci := 4) (q0 := 1) rfl rfl) rfl hl.1 rfl (Nat.le_of_ble_eq_true rfl) ⟨Nat.zero_le _, Nat.zero_le _⟩ dX1_sell_21 (fun H locs hP hS => ?_)
  refine lv_if_ne (tgt := 52) hx hb dX1_sell_24 (by decide) (fun c7 => ?_) (fun c7 => ?_)
  · replace h := if_f c7 h
    refine lv_ldc (v := (-1000000003)) hx hb hown cn82 dX1_sell_52 ?_
    simp only [Option.some.injEq, Prod.mk.injEq] at h
    obtain ⟨rfl, rfl, rfl, rfl, rfl, rfl, rfl⟩ := h
    exact hret _ _ _ _ hP hS rfl dX1_sell_54
  · replace h := if_t c7 h
    refine lv_aload_n hx hb dX1_sell_27 rfl (lv_at hl 2 rfl) ?_
    refine lv_aload_n hx hb dX1_sell_28 rfl (lv_at hl 3 rfl) ?_
    refine lv_iload_n hx hb dX1_sell_29 rfl (lv_at hl 4 rfl) ?_
    refine lv_iload_n hx hb dX1_sell_30 rfl (lv_at hl 5 rfl) ?_
    replace h := bd_el h
    obtain ⟨r8, hc9, h⟩ := h
    refine callVI (rest := []) ⟨hx, hb, hml, hown, hts⟩ (ctX1_passes l D cI cZ cB cS kK kV _ qt qt_value qt_weight qt_slugWeight qt_rhythm qt_rhythmLength qt_paidBy qs1 qs1_tube qs1_goods qs1_stick qs1_kicks qs1_kickCount qs1_low qs1_high qs1_price qs1_wired it_kinds it_columns it_slugs is1_lost is1_stamps is1_sales is1_damp is1_worn is1_seed ft_weight fs1_low fs1_high x2 x3 N r8 hc9) (cwV 3 hts gX1_sell_X1_passes rfl rfl rfl hdX1_passes ⟨Nat.le_of_ble_eq_true rfl, Nat.le_of_ble_eq_true rfl⟩) hK hN hX hP (dF hD rfl) hS hA [0, 1, 6, 7, 8] (mcC rfl (mcC rfl (mcC rfl (mcC rfl (mcC rfl mcN))))) (by decide +kernel) [(qt, .inr (1, [.ref qt_value, .ref qt_weight, .ref qt_slugWeight, .ref qt_rhythm, .ref qt_rhythmLength, .ref qt_paidBy, .int it_kinds, .int it_columns, .int it_slugs])), (qs1, .inr (4, [.ref qs1_tube, .ref qs1_goods, .ref qs1_stick, .ref qs1_kicks, .ref qs1_kickCount, .ref qs1_low, .ref qs1_high, .ref qs1_price, .ref qs1_wired, .int is1_lost, .int is1_stamps, .int is1_sales, .int is1_damp, .int is1_worn, .int is1_seed])), (qt_value, .inl (cI, 5, .inl ft_value)), (qs1_price, .inl (cI, 5, .inl fs1_price)), (qs1_wired, .inl (cI, 5, .inl fs1_wired)), (qs1_stick, .inl (cI, 5, .inl fs1_stick)), (qt_weight, .inl (cI, 5, .inl ft_weight)), (qs1_low, .inl (cI, 5, .inl fs1_low)), (qs1_high, .inl (cI, 5, .inl fs1_high)), (qs1_goods, .inl (cI, 5, .inl fs1_goods)), (qs1_tube, .inl (cI, 5, .inl fs1_tube)), (qt_paidBy, .inl (cI, 5, .inl ft_paidBy))] [2, 3, 4, 5, 9, 10, 11] (mcC rfl (mcC rfl (mcC rfl (mcC rfl (mcC rfl mcN))))) ((mcC rfl (mcC rfl (mcC rfl (mcC rfl (mcC rfl (mcC rfl (mcC rfl mcN))))))).trans (mcC rfl (mcC rfl (mcC rfl (mcC rfl (mcC rfl (mcC rfl (mcC rfl mcN))))))).symm) 12 rfl (by decide +kernel) (va_recv hK hP (ci := 1) (q0 := 0) rfl rfl) rfl hl.1 rfl (Nat.le_of_ble_eq_true rfl) ⟨Nat.zero_le _, Nat.zero_le _⟩ dX1_sell_31 (fun H locs hP hS => ?_)
    refine lv_if_eq (tgt := 52) hx hb dX1_sell_34 (by decide) (fun c10 => ?_) (fun c10 => ?_)
    · replace h := if_t c10 h
      refine lv_ldc (v := (-1000000003)) hx hb hown cn82 dX1_sell_52 ?_
      simp only [Option.some.injEq, Prod.mk.injEq] at h
      obtain ⟨rfl, rfl, rfl, rfl, rfl, rfl, rfl⟩ := h
      exact hret _ _ _ _ hP hS rfl dX1_sell_54
    · replace h := if_f c10 h
      refine lv_iload hx hb dX1_sell_37 (lv_at hl 1 rfl) ?_
      refine lv_if_lt (tgt := 52) hx hb dX1_sell_39 (by decide) (fun c11 => ?_) (fun c11 => ?_)
      · replace h := if_t c11 h
        refine lv_ldc (v := (-1000000003)) hx hb hown cn82 dX1_sell_52 ?_
        simp only [Option.some.injEq, Prod.mk.injEq] at h
        obtain ⟨rfl, rfl, rfl, rfl, rfl, rfl, rfl⟩ := h
        exact hret _ _ _ _ hP hS rfl dX1_sell_54
      · replace h := if_f c11 h
        refine lv_aload_n hx hb dX1_sell_42 rfl (lv_at hl 3 rfl) ?_
        refine va_getN (ci := 4) (v := .ref qs1_goods) (C := RX4) (T := TX4) (N := 15) hx hb hts hiX4 hown hK hP 1 rfl rfl 1 (by decide) fl79 (fun _ h9 => h9) rfl dX1_sell_43 ?_
        refine lv_iload hx hb dX1_sell_46 (lv_at hl 0 rfl) ?_
        replace h := ck_el h
        obtain ⟨hi12, h⟩ := h
        refine va_iald hx hb hK hP 9 0 rfl rfl hi12 dX1_sell_48 ?_
        refine lv_if_ne (tgt := 55) hx hb dX1_sell_49 (by decide) (fun c13 => ?_) (fun c13 => ?_)
        · replace h := if_f c13 h
          refine lv_aload_n hx hb dX1_sell_55 rfl (lv_at hl 3 rfl) ?_
          refine va_getN (ci := 4) (v := .ref qs1_goods) (C := RX4) (T := TX4) (N := 15) hx hb hts hiX4 hown hK hP 1 rfl rfl 1 (by decide) fl79 (fun _ h9 => h9) rfl dX1_sell_56 ?_
          refine lv_iload hx hb dX1_sell_59 (lv_at hl 0 rfl) ?_
          refine lv_dup2_11 hx hb dX1_sell_61 rfl rfl ?_
          refine va_iald hx hb hK hP 9 0 rfl rfl hi12 dX1_sell_62 ?_
          refine lv_iconst (v := 1) hx hb dX1_sell_63 (by decide) ?_
          refine lv_isub hx hb dX1_sell_64 ?_
          refine lv_topi (fun n14 en14 => ?_)
          replace h := lt_at en14 h
          refine va_iast hx hb hK hP (dF hD rfl) hS 9 0 rfl rfl hi12 dX1_sell_65 (fun H locs hP _ hS => ?_)
          replace hP : va_P D vwCl [(qt, .inr (1, [.ref qt_value, .ref qt_weight, .ref qt_slugWeight, .ref qt_rhythm, .ref qt_rhythmLength, .ref qt_paidBy, .int it_kinds, .int it_columns, .int it_slugs])), (qs1, .inr (4, [.ref qs1_tube, .ref qs1_goods, .ref qs1_stick, .ref qs1_kicks, .ref qs1_kickCount, .ref qs1_low, .ref qs1_high, .ref qs1_price, .ref qs1_wired, .int is1_lost, .int is1_stamps, .int is1_sales, .int is1_damp, .int is1_worn, .int is1_seed])), (qt_value, .inl (cI, 5, .inl ft_value)), (qs1_price, .inl (cI, 5, .inl fs1_price)), (qs1_wired, .inl (cI, 5, .inl fs1_wired)), (qs1_stick, .inl (cI, 5, .inl fs1_stick)), (qt_weight, .inl (cI, 5, .inl ft_weight)), (qs1_low, .inl (cI, 5, .inl fs1_low)), (qs1_high, .inl (cI, 5, .inl fs1_high)), (qs1_goods, .inl (cI, 5, .inl (upd fs1_goods (Int32.toNatClampNeg n4) n14))), (qs1_tube, .inl (cI, 5, .inl fs1_tube)), (qt_paidBy, .inl (cI, 5, .inl ft_paidBy))] H := hP
          refine lv_aload_n hx hb dX1_sell_66 rfl (lv_at hl 3 rfl) ?_
          refine lv_iload_n hx hb dX1_sell_67 rfl (lv_at hl 5 rfl) ?_
          refine lv_iload hx hb dX1_sell_68 (lv_at hl 6 rfl) ?_
          replace h := bd_el h
          obtain ⟨⟨g15, g16⟩, hc17, h⟩ := h
          refine callVV (rest := []) ⟨hx, hb, hml, hown, hts⟩ (ctX4_takeIn l D cI cZ cB cS kK kV _ qs1 qs1_tube qs1_goods qs1_stick qs1_kicks qs1_kickCount qs1_low qs1_high qs1_price qs1_wired is1_lost is1_stamps is1_sales is1_damp is1_worn is1_seed fs1_tube x3 x4 N g15 g16 hc17) (cwV 2 hts gX1_sell_X4_takeIn rfl rfl rfl hdX4_takeIn ⟨Nat.le_of_ble_eq_true rfl, Nat.le_of_ble_eq_true rfl⟩) hK hN hX hP (dF hD rfl) hS hA [1, 10] (mcC rfl (mcC rfl mcN)) (by decide +kernel) [(qt, .inr (1, [.ref qt_value, .ref qt_weight, .ref qt_slugWeight, .ref qt_rhythm, .ref qt_rhythmLength, .ref qt_paidBy, .int it_kinds, .int it_columns, .int it_slugs])), (qs1, .inr (4, [.ref qs1_tube, .ref qs1_goods, .ref qs1_stick, .ref qs1_kicks, .ref qs1_kickCount, .ref qs1_low, .ref qs1_high, .ref qs1_price, .ref qs1_wired, .int g15, .int is1_stamps, .int is1_sales, .int is1_damp, .int is1_worn, .int is1_seed])), (qt_value, .inl (cI, 5, .inl ft_value)), (qs1_price, .inl (cI, 5, .inl fs1_price)), (qs1_wired, .inl (cI, 5, .inl fs1_wired)), (qs1_stick, .inl (cI, 5, .inl fs1_stick)), (qt_weight, .inl (cI, 5, .inl ft_weight)), (qs1_low, .inl (cI, 5, .inl fs1_low)), (qs1_high, .inl (cI, 5, .inl fs1_high)), (qs1_goods, .inl (cI, 5, .inl (upd fs1_goods (Int32.toNatClampNeg n4) n14))), (qs1_tube, .inl (cI, 5, .inl g16)), (qt_paidBy, .inl (cI, 5, .inl ft_paidBy))] [0, 2, 3, 4, 5, 6, 7, 8, 9, 11] (mcC rfl (mcC rfl mcN)) ((mcC rfl (mcC rfl (mcC rfl (mcC rfl (mcC rfl (mcC rfl (mcC rfl (mcC rfl (mcC rfl (mcC rfl mcN)))))))))).trans (mcC rfl (mcC rfl (mcC rfl (mcC rfl (mcC rfl (mcC rfl (mcC rfl (mcC rfl (mcC rfl (mcC rfl mcN)))))))))).symm) 12 rfl (by decide +kernel) (va_recv hK hP (ci := 4) (q0 := 1) rfl rfl) rfl hl.1 rfl (Nat.le_of_ble_eq_true rfl) ⟨Nat.zero_le _, Nat.zero_le _⟩ dX1_sell_70 (fun H locs hP hS => ?_)
          refine lv_aload_n hx hb dX1_sell_73 rfl (lv_at hl 2 rfl) ?_
          refine lv_aload_n hx hb dX1_sell_74 rfl (lv_at hl 3 rfl) ?_
          refine va_getN (ci := 4) (v := .ref qs1_tube) (C := RX4) (T := TX4) (N := 15) hx hb hts hiX4 hown hK hP 1 rfl rfl 0 (by decide) fl63 (fun _ h9 => h9) rfl dX1_sell_75 ?_
          refine lv_iload hx hb dX1_sell_78 (lv_at hl 1 rfl) ?_
          replace h := bd_el h
          obtain ⟨⟨r18, g19⟩, hc20, h⟩ := h
          refine callVI (rest := []) ⟨hx, hb, hml, hown, hts⟩ (ctX1_payBack l D cI cZ cB cS kK kV _ qt qt_value qt_weight qt_slugWeight qt_rhythm qt_rhythmLength qt_paidBy qs1_tube it_kinds it_columns it_slugs g16 ft_paidBy ft_value r1 N r18 g19 hc20) (cwV 2 hts gX1_sell_X1_payBack rfl rfl rfl hdX1_payBack ⟨Nat.le_of_ble_eq_true rfl, Nat.le_of_ble_eq_true rfl⟩) hK hN hX hP (dF hD rfl) hS hA [0, 10, 11, 2] (mcC rfl (mcC rfl (mcC rfl (mcC rfl mcN)))) (by decide +kernel) [(qt, .inr (1, [.ref qt_value, .ref qt_weight, .ref qt_slugWeight, .ref qt_rhythm, .ref qt_rhythmLength, .ref qt_paidBy, .int it_kinds, .int it_columns, .int it_slugs])), (qs1, .inr (4, [.ref qs1_tube, .ref qs1_goods, .ref qs1_stick, .ref qs1_kicks, .ref qs1_kickCount, .ref qs1_low, .ref qs1_high, .ref qs1_price, .ref qs1_wired, .int g15, .int is1_stamps, .int is1_sales, .int is1_damp, .int is1_worn, .int is1_seed])), (qt_value, .inl (cI, 5, .inl ft_value)), (qs1_price, .inl (cI, 5, .inl fs1_price)), (qs1_wired, .inl (cI, 5, .inl fs1_wired)), (qs1_stick, .inl (cI, 5, .inl fs1_stick)), (qt_weight, .inl (cI, 5, .inl ft_weight)), (qs1_low, .inl (cI, 5, .inl fs1_low)), (qs1_high, .inl (cI, 5, .inl fs1_high)), (qs1_goods, .inl (cI, 5, .inl (upd fs1_goods (Int32.toNatClampNeg n4) n14))), (qs1_tube, .inl (cI, 5, .inl g19)), (qt_paidBy, .inl (cI, 5, .inl ft_paidBy))] [1, 3, 4, 5, 6, 7, 8, 9] (mcC rfl (mcC rfl (mcC rfl (mcC rfl mcN)))) ((mcC rfl (mcC rfl (mcC rfl (mcC rfl (mcC rfl (mcC rfl (mcC rfl (mcC rfl mcN)))))))).trans (mcC rfl (mcC rfl (mcC rfl (mcC rfl (mcC rfl (mcC rfl (mcC rfl (mcC rfl mcN)))))))).symm) 12 rfl (by decide +kernel) (va_recv hK hP (ci := 1) (q0 := 0) rfl rfl) rfl hl.1 rfl (Nat.le_of_ble_eq_true rfl) ⟨Nat.zero_le _, Nat.zero_le _⟩ dX1_sell_80 (fun H locs hP hS => ?_)
          refine lv_istore (lv' := [(7, .int r18), (6, .int n4), (5, .int r1), (0, .ref qt), (1, .ref qs1), (2, .int x2), (3, .int x3), (4, .int x4)]) hx hb dX1_sell_83 hl (by decide) rfl (fun ls hl => ?_)
          refine lv_aload_n hx hb dX1_sell_85 rfl (lv_at hl 4 rfl) ?_
          refine lv_ldc (v := 999999999) hx hb hown cn91 dX1_sell_86 ?_
          refine lv_aload_n hx hb dX1_sell_88 rfl (lv_at hl 4 rfl) ?_
          refine va_getN (ci := 4) (v := .int is1_stamps) (C := RX4) (T := TX4) (N := 15) hx hb hts hiX4 hown hK hP 1 rfl rfl 10 (by decide) fl92 (fun _ h9 => h9) rfl dX1_sell_89 ?_
          refine lv_iload hx hb dX1_sell_92 (lv_at hl 2 rfl) ?_
          refine lv_iadd hx hb dX1_sell_94 ?_
          refine lv_iload hx hb dX1_sell_95 (lv_at hl 0 rfl) ?_
          refine lv_isub hx hb dX1_sell_97 ?_
          refine va_mmin hx hb (hml.trans hl.1.symm) hown ml95 msmin mi mcmin (Nat.le_of_ble_eq_true rfl) (Nat.le_of_ble_eq_true rfl) (Nat.zero_le _) (Nat.zero_le _) dX1_sell_98 ?_
          refine lv_topi (fun n21 en21 => ?_)
          replace h := lt_at en21 h
          refine va_putN (ci := 4) (v := .int n21) (ty := .int) (C := RX4) (T := TX4) (N := 15) hx hb hts hiX4 tyX4 tyX4_ok nmX4 hown hK hP (dF hD rfl) hS 1 rfl rfl 10 (by decide) fl92 (fun _ h9 => h9) rfl (by decide +kernel) rfl rfl (Nat.le_of_ble_eq_true rfl) dX1_sell_101 (fun H locs hP _ hS => ?_)
          replace hP : va_P D vwCl [(qt, .inr (1, [.ref qt_value, .ref qt_weight, .ref qt_slugWeight, .ref qt_rhythm, .ref qt_rhythmLength, .ref qt_paidBy, .int it_kinds, .int it_columns, .int it_slugs])), (qs1, .inr (4, [.ref qs1_tube, .ref qs1_goods, .ref qs1_stick, .ref qs1_kicks, .ref qs1_kickCount, .ref qs1_low, .ref qs1_high, .ref qs1_price, .ref qs1_wired, .int g15, .int n21, .int is1_sales, .int is1_damp, .int is1_worn, .int is1_seed])), (qt_value, .inl (cI, 5, .inl ft_value)), (qs1_price, .inl (cI, 5, .inl fs1_price)), (qs1_wired, .inl (cI, 5, .inl fs1_wired)), (qs1_stick, .inl (cI, 5, .inl fs1_stick)), (qt_weight, .inl (cI, 5, .inl ft_weight)), (qs1_low, .inl (cI, 5, .inl fs1_low)), (qs1_high, .inl (cI, 5, .inl fs1_high)), (qs1_goods, .inl (cI, 5, .inl (upd fs1_goods (Int32.toNatClampNeg n4) n14))), (qs1_tube, .inl (cI, 5, .inl g19)), (qt_paidBy, .inl (cI, 5, .inl ft_paidBy))] H := hP
          refine lv_aload_n hx hb dX1_sell_104 rfl (lv_at hl 4 rfl) ?_
          refine lv_ldc (v := 999999999) hx hb hown cn91 dX1_sell_105 ?_
          refine lv_aload_n hx hb dX1_sell_107 rfl (lv_at hl 4 rfl) ?_
          refine va_getN (ci := 4) (v := .int is1_sales) (C := RX4) (T := TX4) (N := 15) hx hb hts hiX4 hown hK hP 1 rfl rfl 11 (by decide) fl101 (fun _ h9 => h9) rfl dX1_sell_108 ?_
          refine lv_iconst (v := 1) hx hb dX1_sell_111 (by decide) ?_
          refine lv_iadd hx hb dX1_sell_112 ?_
          refine va_mmin hx hb (hml.trans hl.1.symm) hown ml95 msmin mi mcmin (Nat.le_of_ble_eq_true rfl) (Nat.le_of_ble_eq_true rfl) (Nat.zero_le _) (Nat.zero_le _) dX1_sell_113 ?_
          refine lv_topi (fun n22 en22 => ?_)
          replace h := lt_at en22 h
          refine va_putN (ci := 4) (v := .int n22) (ty := .int) (C := RX4) (T := TX4) (N := 15) hx hb hts hiX4 tyX4 tyX4_ok nmX4 hown hK hP (dF hD rfl) hS 1 rfl rfl 11 (by decide) fl101 (fun _ h9 => h9) rfl (by decide +kernel) rfl rfl (Nat.le_of_ble_eq_true rfl) dX1_sell_116 (fun H locs hP _ hS => ?_)
          replace hP : va_P D vwCl [(qt, .inr (1, [.ref qt_value, .ref qt_weight, .ref qt_slugWeight, .ref qt_rhythm, .ref qt_rhythmLength, .ref qt_paidBy, .int it_kinds, .int it_columns, .int it_slugs])), (qs1, .inr (4, [.ref qs1_tube, .ref qs1_goods, .ref qs1_stick, .ref qs1_kicks, .ref qs1_kickCount, .ref qs1_low, .ref qs1_high, .ref qs1_price, .ref qs1_wired, .int g15, .int n21, .int n22, .int is1_damp, .int is1_worn, .int is1_seed])), (qt_value, .inl (cI, 5, .inl ft_value)), (qs1_price, .inl (cI, 5, .inl fs1_price)), (qs1_wired, .inl (cI, 5, .inl fs1_wired)), (qs1_stick, .inl (cI, 5, .inl fs1_stick)), (qt_weight, .inl (cI, 5, .inl ft_weight)), (qs1_low, .inl (cI, 5, .inl fs1_low)), (qs1_high, .inl (cI, 5, .inl fs1_high)), (qs1_goods, .inl (cI, 5, .inl (upd fs1_goods (Int32.toNatClampNeg n4) n14))), (qs1_tube, .inl (cI, 5, .inl g19)), (qt_paidBy, .inl (cI, 5, .inl ft_paidBy))] H := hP
          refine lv_aload_n hx hb dX1_sell_119 rfl (lv_at hl 4 rfl) ?_
          refine va_getN (ci := 4) (v := .ref qs1_stick) (C := RX4) (T := TX4) (N := 15) hx hb hts hiX4 hown hK hP 1 rfl rfl 2 (by decide) fl104 (fun _ h9 => h9) rfl dX1_sell_120 ?_
          refine lv_iload_n hx hb dX1_sell_123 rfl (lv_at hl 5 rfl) ?_
          refine lv_dup2_11 hx hb dX1_sell_124 rfl rfl ?_
          refine va_iald hx hb hK hP 5 0 rfl rfl hi3 dX1_sell_125 ?_
          refine lv_aload_n hx hb dX1_sell_126 rfl (lv_at hl 4 rfl) ?_
          refine va_getN (ci := 4) (v := .int is1_damp) (C := RX4) (T := TX4) (N := 15) hx hb hts hiX4 hown hK hP 1 rfl rfl 12 (by decide) fl107 (fun _ h9 => h9) rfl dX1_sell_127 ?_
          refine lv_iload hx hb dX1_sell_130 (lv_at hl 7 rfl) ?_
          refine lv_imul hx hb dX1_sell_132 ?_
          refine lv_iadd hx hb dX1_sell_133 ?_
          refine lv_topi (fun n23 en23 => ?_)
          replace h := lt_at en23 h
          refine va_iast hx hb hK hP (dF hD rfl) hS 5 0 rfl rfl hi3 dX1_sell_134 (fun H locs hP _ hS => ?_)
          replace hP : va_P D vwCl [(qt, .inr (1, [.ref qt_value, .ref qt_weight, .ref qt_slugWeight, .ref qt_rhythm, .ref qt_rhythmLength, .ref qt_paidBy, .int it_kinds, .int it_columns, .int it_slugs])), (qs1, .inr (4, [.ref qs1_tube, .ref qs1_goods, .ref qs1_stick, .ref qs1_kicks, .ref qs1_kickCount, .ref qs1_low, .ref qs1_high, .ref qs1_price, .ref qs1_wired, .int g15, .int n21, .int n22, .int is1_damp, .int is1_worn, .int is1_seed])), (qt_value, .inl (cI, 5, .inl ft_value)), (qs1_price, .inl (cI, 5, .inl fs1_price)), (qs1_wired, .inl (cI, 5, .inl fs1_wired)), (qs1_stick, .inl (cI, 5, .inl (upd fs1_stick (Int32.toNatClampNeg x2) n23))), (qt_weight, .inl (cI, 5, .inl ft_weight)), (qs1_low, .inl (cI, 5, .inl fs1_low)), (qs1_high, .inl (cI, 5, .inl fs1_high)), (qs1_goods, .inl (cI, 5, .inl (upd fs1_goods (Int32.toNatClampNeg n4) n14))), (qs1_tube, .inl (cI, 5, .inl g19)), (qt_paidBy, .inl (cI, 5, .inl ft_paidBy))] H := hP
          refine lv_iload hx hb dX1_sell_135 (lv_at hl 0 rfl) ?_
          simp only [Option.some.injEq, Prod.mk.injEq] at h
          obtain ⟨rfl, rfl, rfl, rfl, rfl, rfl, rfl⟩ := h
          exact hret _ _ _ _ hP hS rfl dX1_sell_137
        · replace h := if_t c13 h
          refine lv_ldc (v := (-1000000003)) hx hb hown cn82 dX1_sell_52 ?_
          simp only [Option.some.injEq, Prod.mk.injEq] at h
          obtain ⟨rfl, rfl, rfl, rfl, rfl, rfl, rfl⟩ := h
          exact hret _ _ _ _ hP hS rfl dX1_sell_54
theorem hdX1_sell : yX1_sell.cls = RX1 ∧ yX1_sell.cls ≠ "java/lang/invoke/MethodHandle" ∧ yX1_sell.cls ≠ "java/lang/invoke/VarHandle" ∧ (parseMethodDescriptor yX1_sell.desc).map (fun d => d.parameters.length) = some 4 := by decide +kernel
