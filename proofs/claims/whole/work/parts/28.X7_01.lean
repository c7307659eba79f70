noncomputable def fX7_buy (N : Nat) (it_plan_kinds : Int32) (it_plan_columns : Int32) (it_now_lost : Int32) (it_now_stamps : Int32) (it_now_sales : Int32) (it_now_damp : Int32) (it_now_worn : Int32) (ft_plan_value : Nat → Int32) (ft_now_price : Nat → Int32) (ft_now_wired : Nat → Int32) (ft_now_stick : Nat → Int32) (ft_plan_weight : Nat → Int32) (ft_now_low : Nat → Int32) (ft_now_high : Nat → Int32) (ft_now_goods : Nat → Int32) (ft_now_tube : Nat → Int32) (ft_plan_paidBy : Nat → Int32) (x1 : Int32) (x2 : Int32) (x3 : Int32) : Option (Int32 × Int32 × Int32 × Int32 × (Nat → Int32) × (Nat → Int32) × (Nat → Int32)) := bd (fX1_isColumn N it_plan_columns x1) fun r1 => (if r1 = 0 then some ((-1000000001), it_now_lost, it_now_stamps, it_now_sales, ft_now_stick, ft_now_goods, ft_now_tube) else bd (fX1_isKind N it_plan_kinds x2) fun r4 => (if r4 = 0 then some ((-1000000001), it_now_lost, it_now_stamps, it_now_sales, ft_now_stick, ft_now_goods, ft_now_tube) else (if x3 < 1 then some ((-1000000002), it_now_lost, it_now_stamps, it_now_sales, ft_now_stick, ft_now_goods, ft_now_tube) else (if x3 ≤ 99 then bd (fX1_sell N it_plan_kinds it_now_lost it_now_stamps it_now_sales it_now_damp it_now_worn ft_plan_value ft_now_price ft_now_wired ft_now_stick ft_plan_weight ft_now_low ft_now_high ft_now_goods ft_now_tube ft_plan_paidBy x1 x2 x3) fun (r9, g10, g11, g12, g13, g14, g15) => some (r9, g10, g11, g12, g13, g14, g15) else some ((-1000000002), it_now_lost, it_now_stamps, it_now_sales, ft_now_stick, ft_now_goods, ft_now_tube)))))
set_option maxHeartbeats 4000000 in
set_option maxRecDepth 100000 in
theorem ctX7_buy (l : Launch) (D : va_G) (cI cZ cB cS : ClassId) (kK kV : Nat → Nat) (sz : Nat) (qt qt_text qt_reader qt_images qt_kept qt_buyers qt_tries qt_trial qt_row qt_plan qt_now qt_plan_value qt_plan_weight qt_plan_slugWeight qt_plan_rhythm qt_plan_rhythmLength qt_plan_paidBy qt_now_tube qt_now_goods qt_now_stick qt_now_kicks qt_now_kickCount qt_now_low qt_now_high qt_now_price qt_now_wired : Nat) (it_faultAt : Int32) (it_plan_kinds : Int32) (it_plan_columns : Int32) (it_plan_slugs : Int32) (it_now_lost : Int32) (it_now_stamps : Int32) (it_now_sales : Int32) (it_now_damp : Int32) (it_now_worn : Int32) (it_now_seed : Int32) (ft_plan_value : Nat → Int32) (ft_now_price : Nat → Int32) (ft_now_wired : Nat → Int32) (ft_now_stick : Nat → Int32) (ft_plan_weight : Nat → Int32) (ft_now_low : Nat → Int32) (ft_now_high : Nat → Int32) (ft_now_goods : Nat → Int32) (ft_now_tube : Nat → Int32) (ft_plan_paidBy : Nat → Int32) (x1 : Int32) (x2 : Int32) (x3 : Int32) (N : Nat) (r0 : Int32) (w_it_now_lost : Int32) (w_it_now_stamps : Int32) (w_it_now_sales : Int32) (w_ft_now_stick : Nat → Int32) (w_ft_now_goods : Nat → Int32) (w_ft_now_tube : Nat → Int32) (h : fX7_buy N it_plan_kinds it_plan_columns it_now_lost it_now_stamps it_now_sales it_now_damp it_now_worn ft_plan_value ft_now_price ft_now_wired ft_now_stick ft_plan_weight ft_now_low ft_now_high ft_now_goods ft_now_tube ft_plan_paidBy x1 x2 x3 = some (r0, w_it_now_lost, w_it_now_stamps, w_it_now_sales, w_ft_now_stick, w_ft_now_goods, w_ft_now_tube)) : CtI l yX7_buy wsX7_buy { frames := 3, cells := 0, slots := 0, locals := 74 } D (TY cI cZ cB cS) kK kV [.ref qt, .int x1, .int x2, .int x3] [(qt, .inr (7, [.ref qt_text, .ref qt_reader, .ref qt_images, .ref qt_kept, .ref qt_buyers, .ref qt_tries, .ref qt_trial, .ref qt_row, .ref qt_plan, .ref qt_now, .int it_faultAt])), (qt_plan, .inr (1, [.ref qt_plan_value, .ref qt_plan_weight, .ref qt_plan_slugWeight, .ref qt_plan_rhythm, .ref qt_plan_rhythmLength, .ref qt_plan_paidBy, .int it_plan_kinds, .int it_plan_columns, .int it_plan_slugs])), (qt_now, .inr (4, [.ref qt_now_tube, .ref qt_now_goods, .ref qt_now_stick, .ref qt_now_kicks, .ref qt_now_kickCount, .ref qt_now_low, .ref qt_now_high, .ref qt_now_price, .ref qt_now_wired, .int it_now_lost, .int it_now_stamps, .int it_now_sales, .int it_now_damp, .int it_now_worn, .int it_now_seed])), (qt_plan_value, .inl (cI, 5, .inl ft_plan_value)), (qt_now_price, .inl (cI, 5, .inl ft_now_price)), (qt_now_wired, .inl (cI, 5, .inl ft_now_wired)), (qt_now_stick, .inl (cI, 5, .inl ft_now_stick)), (qt_plan_weight, .inl (cI, 5, .inl ft_plan_weight)), (qt_now_low, .inl (cI, 5, .inl ft_now_low)), (qt_now_high, .inl (cI, 5, .inl ft_now_high)), (qt_now_goods, .inl (cI, 5, .inl ft_now_goods)), (qt_now_tube, .inl (cI, 5, .inl ft_now_tube)), (qt_plan_paidBy, .inl (cI, 5, .inl ft_plan_paidBy))] [(qt, .inr (7, [.ref qt_text, .ref qt_reader, .ref qt_images, .ref qt_kept, .ref qt_buyers, .ref qt_tries, .ref qt_trial, .ref qt_row, .ref qt_plan, .ref qt_now, .int it_faultAt])), (qt_plan, .inr (1, [.ref qt_plan_value, .ref qt_plan_weight, .ref qt_plan_slugWeight, .ref qt_plan_rhythm, .ref qt_plan_rhythmLength, .ref qt_plan_paidBy, .int it_plan_kinds, .int it_plan_columns, .int it_plan_slugs])), (qt_now, .inr (4, [.ref qt_now_tube, .ref qt_now_goods, .ref qt_now_stick, .ref qt_now_kicks, .ref qt_now_kickCount, .ref qt_now_low, .ref qt_now_high, .ref qt_now_price, .ref qt_now_wired, .int w_it_now_lost, .int w_it_now_stamps, .int w_it_now_sales, .int it_now_damp, .int it_now_worn, .int it_now_seed])), (qt_plan_value, .inl (cI, 5, .inl ft_plan_value)), (qt_now_price, .inl (cI, 5, .inl ft_now_price)), (qt_now_wired, .inl (cI, 5, .inl ft_now_wired)), (qt_now_stick, .inl (cI, 5, .inl w_ft_now_stick)), (qt_plan_weight, .inl (cI, 5, .inl ft_plan_weight)), (qt_now_low, .inl (cI, 5, .inl ft_now_low)), (qt_now_high, .inl (cI, 5, .inl ft_now_high)), (qt_now_goods, .inl (cI, 5, .inl w_ft_now_goods)), (qt_now_tube, .inl (cI, 5, .inl w_ft_now_tube)), (qt_plan_paidBy, .inl (cI, 5, .inl ft_plan_paidBy))] sz r0 := by
  refine mkI (cc := cX7_buy) (maxL := 4) (rt := .int) (own := RX7) (by decide) rfl rfl (Nat.le_of_ble_eq_true rfl) ?_
  intro p e s m args below meth c A Z ls hx hb hml hown hts hK hN hX hP hD hA hS hret hl
  have hl : lv_has ls 4 [(0, .ref qt), (1, .int x1), (2, .int x2), (3, .int x3)] := hl
  have fl64 : (Cond.fieldLink RX7 64 "SoupWall" "plan" "LSoupWall$Plan;").before args s = true := hts _ (List.mem_of_getElem? (l := wsX7_buy) (i := 1) rfl)
  have hiX7 : ∀ w ∈ wsX70, w ∈ wsX7_buy := fun w h => List.mem_cons_of_mem _ (List.mem_append_left _ (List.mem_append_left _ (List.mem_append_right _ h)))
  have cn137 : (Cond.constant RX7 137 (-1000000001)).before args s = true := hts _ (List.mem_of_getElem? (l := wsX7_buy) (i := 2) rfl)
  have cn75 : (Cond.constant RX7 75 (-1000000002)).before args s = true := hts _ (List.mem_of_getElem? (l := wsX7_buy) (i := 3) rfl)
  have fl68 : (Cond.fieldLink RX7 68 "SoupWall" "now" "LSoupWall$State;").before args s = true := hts _ (List.mem_of_getElem? (l := wsX7_buy) (i := 4) rfl)
  unfold fX7_buy at h
  refine lv_aload_n hx hb dX7_buy_0 rfl (lv_at hl 0 rfl) ?_
  refine va_get (ci := 7) (v := .ref qt_plan) (C := RX7) (T := TX7) (N := 11) hx hb hts hiX7 hown hK hP 0 rfl rfl 8 (by decide) fl64 (fun _ h9 => h9) rfl dX7_buy_1 ?_
  refine lv_iload_n hx hb dX7_buy_4 rfl (lv_at hl 1 rfl) ?_
  replace h := bd_el h
  obtain ⟨r1, hc2, h⟩ := h
  refine callVI (rest := []) ⟨hx, hb, hml, hown, hts⟩ (ctX1_isColumn l D cI cZ cB cS kK kV _ qt_plan qt_plan_value qt_plan_weight qt_plan_slugWeight qt_plan_rhythm qt_plan_rhythmLength qt_plan_paidBy it_plan_kinds it_plan_columns it_plan_slugs x1 N r1 hc2) (cwV 1 hts gX7_buy_X1_isColumn rfl rfl rfl hdX1_isColumn ⟨Nat.le_of_ble_eq_true rfl, Nat.le_of_ble_eq_true rfl⟩) hK hN hX hP (dF hD rfl) hS hA [1] (mcC rfl mcN) (by decide +kernel) [(qt, .inr (7, [.ref qt_text, .ref qt_reader, .ref qt_images, .ref qt_kept, .ref qt_buyers, .ref qt_tries, .ref qt_trial, .ref qt_row, .ref qt_plan, .ref qt_now, .int it_faultAt])), (qt_plan, .inr (1, [.ref qt_plan_value, .ref qt_plan_weight, .ref qt_plan_slugWeight, .ref qt_plan_rhythm, .ref qt_plan_rhythmLength, .ref qt_plan_paidBy, .int it_plan_kinds, .int it_plan_columns, .int it_plan_slugs])), (qt_now, .inr (4, [.ref qt_now_tube, .ref qt_now_goods, .ref qt_now_stick, .ref qt_now_kicks, .ref qt_now_kickCount, .ref qt_now_low, .ref qt_now_high, .ref qt_now_price, .ref qt_now_wired, .int it_now_lost, .int it_now_stamps, .int it_now_sales, .int it_now_damp, .int it_now_worn, .int it_now_seed])), (qt_plan_value, .inl (cI, 5, .inl ft_plan_value)), (qt_now_price, .inl (cI, 5, .inl ft_now_price)), (qt_now_wired, .inl (cI, 5, .inl ft_now_wired)), (qt_now_stick, .inl (cI, 5, .inl ft_now_stick)), (qt_plan_weight, .inl (cI, 5, .inl ft_plan_weight)), (qt_now_low, .inl (cI, 5, .inl ft_now_low)), (qt_now_high, .inl (cI, 5, .inl ft_now_high)), (qt_now_goods, .inl (cI, 5, .inl ft_now_goods)), (qt_now_tube, .inl (cI, 5, .inl ft_now_tube)), (qt_plan_paidBy, .inl (cI, 5, .inl ft_plan_paidBy))] [0, 2, 3, 4, 5, 6, 7, 8, 9, 10, 11, 12] (mcC rfl mcN) ((mcC rfl (mcC rfl (mcC rfl (mcC rfl (mcC rfl (mcC rfl (mcC rfl (mcC rfl (mcC rfl (mcC rfl (mcC rfl (mcC rfl mcN)))))))))))).trans (mcC rfl (mcC rfl (mcC rfl (mcC rfl (mcC rfl (mcC rfl (mcC rfl (mcC rfl (mcC rfl (mcC rfl (mcC rfl (mcC rfl mcN)))))))))))).symm) 13 rfl (by decide +kernel) (va_recv hK hP (ci := 1) (q0 := 1) rfl rfl) rfl hl.1 rfl (Nat.le_of_ble_eq_true rfl) ⟨Nat.zero_le _, Nat.zero_le _⟩ dX7_buy_5 (fun H locs hP hS => ?_)
  refine lv_if_eq (tgt := 22) hx hb dX7_buy_8 (by decide) (fun c3 => ?_) (fun c3 => ?_)
  · replace h := if_t c3 h
    refine lv_ldc (v := (-1000000001)) hx hb hown cn137 dX7_buy_22 ?_
    simp only [Option.some.injEq, Prod.mk.injEq] at h
    obtain ⟨rfl, rfl, rfl, rfl, rfl, rfl, rfl⟩ := h
    exact hret _ _ _ _ hP hS rfl dX7_buy_24
  · replace h := if_f c3 h
    refine lv_aload_n hx hb dX7_buy_11 rfl (lv_at hl 0 rfl) ?_
    refine va_get (ci := 7) (v := .ref qt_plan) (C := RX7) (T := TX7) (N := 11) hx hb hts hiX7 hown hK hP 0 rfl rfl 8 (by decide) fl64 (fun _ h9 => h9) rfl dX7_buy_12 ?_
    refine lv_iload_n hx hb dX7_buy_15 rfl (lv_at hl 2 rfl) ?_
    replace h := bd_el h
    obtain ⟨r4, hc5, h⟩ := h
    refine callVI (rest := []) ⟨hx, hb, hml, hown, hts⟩ (ctX1_isKind l D cI cZ cB cS kK kV _ qt_plan qt_plan_value qt_plan_weight qt_plan_slugWeight qt_plan_rhythm qt_plan_rhythmLength qt_plan_paidBy it_plan_kinds it_plan_columns it_plan_slugs x2 N r4 hc5) (cwV 1 hts gX7_buy_X1_isKind rfl rfl rfl hdX1_isKind ⟨Nat.le_of_ble_eq_true rfl, Nat.le_of_ble_eq_true rfl⟩) hK hN hX hP (dF hD rfl) hS hA [1] (mcC rfl mcN) (by decide +kernel) [(qt, .inr (7, [.ref qt_text, .ref qt_reader, .ref qt_images, .ref qt_kept, .ref qt_buyers, .ref qt_tries, .ref qt_trial, .ref qt_row, .ref qt_plan, .ref qt_now, .int it_faultAt])), (qt_plan, .inr (1, [.ref qt_plan_value, .ref qt_plan_weight, .ref qt_plan_slugWeight, .ref qt_plan_rhythm, .ref qt_plan_rhythmLength, .ref qt_plan_paidBy, .int it_plan_kinds, .int it_plan_columns, .int it_plan_slugs])), (qt_now, .inr (4, [.ref qt_now_tube, .ref qt_now_goods, .ref qt_now_stick, .ref qt_now_kicks, .ref qt_now_kickCount, .ref qt_now_low, .ref qt_now_high, .ref qt_now_price, .ref qt_now_wired, .int it_now_lost, .int it_now_stamps, .int it_now_sales, .int it_now_damp, .int it_now_worn, .int it_now_seed])), (qt_plan_value, .inl (cI, 5, .inl ft_plan_value)), (qt_now_price, .inl (cI, 5, .inl ft_now_price)), (qt_now_wired, .inl (cI, 5, .inl ft_now_wired)), (qt_now_stick, .inl (cI, 5, .inl ft_now_stick)), (qt_plan_weight, .inl (cI, 5, .inl ft_plan_weight)), (qt_now_low, .inl (cI, 5, .inl ft_now_low)), (qt_now_high, .inl (cI, 5, .inl ft_now_high)), (qt_now_goods, .inl (cI, 5, .inl ft_now_goods)), (qt_now_tube, .inl (cI, 5, .inl ft_now_tube)), (qt_plan_paidBy, .inl (cI, 5, .inl ft_plan_paidBy))] [0, 2, 3, 4, 5, 6, 7, 8, 9, 10, 11, 12] (mcC rfl mcN) ((mcC rfl (mcC rfl (mcC rfl (mcC rfl (mcC rfl (mcC rfl (mcC rfl (mcC rfl (mcC rfl (mcC rfl (mcC rfl (mcC rfl mcN)))))))))))).trans (mcC rfl (mcC rfl (mcC rfl (mcC rfl (mcC rfl (mcC rfl (mcC rfl (mcC rfl (mcC rfl (mcC rfl (mcC rfl (mcC rfl mcN)))))))))))).symm) 13 rfl (by decide +kernel) (va_recv hK hP (ci := 1) (q0 := 1) rfl rfl) rfl hl.1 rfl (Nat.le_of_ble_eq_true rfl) ⟨Nat.zero_le _, Nat.zero_le _⟩ dX7_buy_16 (fun H locs hP hS => ?_)
    refine lv_if_ne (tgt := 25) hx hb dX7_buy_19 (by decide) (fun c6 => ?_) (fun c6 => ?_)
    · replace h := if_f c6 h
      refine lv_iload_n hx hb dX7_buy_25 rfl (lv_at hl 3 rfl) ?_
      refine lv_iconst (v := 1) hx hb dX7_buy_26 (by decide) ?_
      refine lv_icmp_lt (tgt := 36) hx hb dX7_buy_27 (by decide) (fun c7 => ?_) (fun c7 => ?_)
      · replace h := if_t c7 h
        refine lv_ldc (v := (-1000000002)) hx hb hown cn75 dX7_buy_36 ?_
        simp only [Option.some.injEq, Prod.mk.injEq] at h
        obtain ⟨rfl, rfl, rfl, rfl, rfl, rfl, rfl⟩ := h
        exact hret _ _ _ _ hP hS rfl dX7_buy_38
      · replace h := if_f c7 h
        refine lv_iload_n hx hb dX7_buy_30 rfl (lv_at hl 3 rfl) ?_
        refine lv_bipush (v := 99) hx hb dX7_buy_31 (by decide) ?_
        refine lv_icmp_le (tgt := 39) hx hb dX7_buy_33 (by decide) (fun c8 => ?_) (fun c8 => ?_)
        · replace h := if_t c8 h
          refine lv_aload_n hx hb dX7_buy_39 rfl (lv_at hl 0 rfl) ?_
          refine va_get (ci := 7) (v := .ref qt_plan) (C := RX7) (T := TX7) (N := 11) hx hb hts hiX7 hown hK hP 0 rfl rfl 8 (by decide) fl64 (fun _ h9 => h9) rfl dX7_buy_40 ?_
          refine lv_aload_n hx hb dX7_buy_43 rfl (lv_at hl 0 rfl) ?_
          refine va_get (ci := 7) (v := .ref qt_now) (C := RX7) (T := TX7) (N := 11) hx hb hts hiX7 hown hK hP 0 rfl rfl 9 (by decide) fl68 (fun _ h9 => h9) rfl dX7_buy_44 ?_
          refine lv_iload_n hx hb dX7_buy_47 rfl (lv_at hl 1 rfl) ?_
          refine lv_iload_n hx hb dX7_buy_48 rfl (lv_at hl 2 rfl) ?_
          refine lv_iload_n hx hb dX7_buy_49 rfl (lv_at hl 3 rfl) ?_
          replace h := bd_el h
          obtain ⟨⟨r9, g10, g11, g12, g13, g14, g15⟩, hc16, h⟩ := h
          refine callVI (rest := []) ⟨hx, hb, hml, hown, hts⟩ (ctX1_sell l D cI cZ cB cS kK kV _ qt_plan qt_plan_value qt_plan_weight qt_plan_slugWeight qt_plan_rhythm qt_plan_rhythmLength qt_plan_paidBy qt_now qt_now_tube qt_now_goods qt_now_stick qt_now_kicks qt_now_kickCount qt_now_low qt_now_high qt_now_price qt_now_wired it_plan_kinds it_plan_columns it_plan_slugs it_now_lost it_now_stamps it_now_sales it_now_damp it_now_worn it_now_seed ft_plan_value ft_now_price ft_now_wired ft_now_stick ft_plan_weight ft_now_low ft_now_high ft_now_goods ft_now_tube ft_plan_paidBy x1 x2 x3 N r9 g10 g11 g12 g13 g14 g15 hc16) (cwV 4 hts gX7_buy_X1_sell rfl rfl rfl hdX1_sell ⟨Nat.le_of_ble_eq_true rfl, Nat.le_of_ble_eq_true rfl⟩) hK hN hX hP (dF hD rfl) hS hA [1, 2, 3, 4, 5, 6, 7, 8, 9, 10, 11, 12] (mcC rfl (mcC rfl (mcC rfl (mcC rfl (mcC rfl (mcC rfl (mcC rfl (mcC rfl (mcC rfl (mcC rfl (mcC rfl (mcC rfl mcN)))))))))))) (by decide +kernel) [(qt, .inr (7, [.ref qt_text, .ref qt_reader, .ref qt_images, .ref qt_kept, .ref qt_buyers, .ref qt_tries, .ref qt_trial, .ref qt_row, .ref qt_plan, .ref qt_now, .int it_faultAt])), (qt_plan, .inr (1, [.ref qt_plan_value, .ref qt_plan_weight, .ref qt_plan_slugWeight, .ref qt_plan_rhythm, .ref qt_plan_rhythmLength, .ref qt_plan_paidBy, .int it_plan_kinds, .int it_plan_columns, .int it_plan_slugs])), (qt_now, .inr (4, [.ref qt_now_tube, .ref qt_now_goods, .ref qt_now_stick, .ref qt_now_kicks, .ref qt_now_kickCount, .ref qt_now_low, .ref qt_now_high, .ref qt_now_price, .ref qt_now_wired, .int g10, .int g11, .int g12, .int it_now_damp, .int it_now_worn, .int it_now_seed])), (qt_plan_value, .inl (cI, 5, .inl ft_plan_value)), (qt_now_price, .inl (cI, 5, .inl ft_now_price)), (qt_now_wired, .inl (cI, 5, .inl ft_now_wired)), (qt_now_stick, .inl (cI, 5, .inl g13)), (qt_plan_weight, .inl (cI, 5, .inl ft_plan_weight)), (qt_now_low, .inl (cI, 5, .inl ft_now_low)), (qt_now_high, .inl (cI, 5, .inl ft_now_high)), (qt_now_goods, .inl (cI, 5, .inl g14)), (qt_now_tube, .inl (cI, 5, .inl g15)), (qt_plan_paidBy, .inl (cI, 5, .inl ft_plan_paidBy))] [0] (mcC rfl (mcC rfl (mcC rfl (mcC rfl (mcC rfl (mcC rfl (mcC rfl (mcC rfl (mcC rfl (mcC rfl (mcC rfl (mcC rfl mcN)))))))))))) ((mcC rfl mcN).trans (mcC rfl mcN).symm) 13 rfl (by decide +kernel) (va_recv hK hP (ci := 1) (q0 := 1) rfl rfl) rfl hl.1 rfl (Nat.le_of_ble_eq_true rfl) ⟨Nat.zero_le _, Nat.zero_le _⟩ dX7_buy_50 (fun H locs hP hS => ?_)
          simp only [Option.some.injEq, Prod.mk.injEq] at h
          obtain ⟨rfl, rfl, rfl, rfl, rfl, rfl, rfl⟩ := h
          exact hret _ _ _ _ hP hS rfl dX7_buy_53
        · replace h := if_f c8 h
          refine lv_ldc (v := (-1000000002)) hx hb hown cn75 dX7_buy_36 ?_
          simp only [Option.some.injEq, Prod.mk.injEq] at h
          obtain ⟨rfl, rfl, rfl, rfl, rfl, rfl, rfl⟩ := h
          exact hret _ _ _ _ hP hS rfl dX7_buy_38
    · replace h := if_t c6 h
      refine lv_ldc (v := (-1000000001)) hx hb hown cn137 dX7_buy_22 ?_
      simp only [Option.some.injEq, Prod.mk.injEq] at h
      obtain ⟨rfl, rfl, rfl, rfl, rfl, rfl, rfl⟩ := h
      exact hret _ _ _ _ hP hS rfl dX7_buy_24
theorem hdX7_buy : yX7_buy.cls = RX7 ∧ yX7_buy.cls ≠ "java/lang/invoke/MethodHandle" ∧ yX7_buy.cls ≠ "java/lang/invoke/VarHandle" ∧ (parseMethodDescriptor yX7_buy.desc).map (fun d => d.parameters.length) = some 3 := by decide +kernel

noncomputable def fX7_kick (N : Nat) (it_plan_columns : Int32) (ft_now_stick : Nat → Int32) (ft_now_kicks : Nat → Int32) (ft_now_kickCount : Nat → Int32) (ft_plan_rhythmLength : Nat → Int32) (ft_plan_rhythm : Nat → Int32) (x1 : Int32) (x2 : Int32) : Option (Int32 × (Nat → Int32) × (Nat → Int32) × (Nat → Int32)) := bd (fX1_isColumn N it_plan_columns x1) fun r1 => (if r1 = 0 then some ((-1000000001), ft_now_stick, ft_now_kicks, ft_now_kickCount) else (if x2 = 0 then bd (fX4_isJammed N ft_now_stick x1) fun r5 => (if r5 = 0 then some ((-1000000003), ft_now_stick, ft_now_kicks, ft_now_kickCount) else bd (fX4_addKick N ft_now_kicks ft_now_kickCount x1 x2) fun (g8, g9) => ck x1 5 (bd (fX1_isRhythm N ft_plan_rhythmLength ft_plan_rhythm x1 (g8 (Int32.toNatClampNeg x1)) (g9 (Int32.toNatClampNeg x1))) fun r12 => (if r12 = 0 then some (0, ft_now_stick, g8, g9) else bd (fX4_setFree N ft_now_stick g8 g9 x1) fun (g15, g16, g17) => some (1, g15, g16, g17)))) else (if x2 = 1 then bd (fX4_isJammed N ft_now_stick x1) fun r20 => (if r20 = 0 then some ((-1000000003), ft_now_stick, ft_now_kicks, ft_now_kickCount) else bd (fX4_addKick N ft_now_kicks ft_now_kickCount x1 x2) fun (g23, g24) => ck x1 5 (bd (fX1_isRhythm N ft_plan_rhythmLength ft_plan_rhythm x1 (g23 (Int32.toNatClampNeg x1)) (g24 (Int32.toNatClampNeg x1))) fun r27 => (if r27 = 0 then some (0, ft_now_stick, g23, g24) else bd (fX4_setFree N ft_now_stick g23 g24 x1) fun (g30, g31, g32) => some (1, g30, g31, g32)))) else some ((-1000000002), ft_now_stick, ft_now_kicks, ft_now_kickCount))))
set_option maxHeartbeats 4000000 in
set_option maxRecDepth 100000 in
theorem ctX7_kick (l : Launch) (D : va_G) (cI cZ cB cS : ClassId) (kK kV : Nat → Nat) (sz : Nat) (qt qt_text qt_reader qt_images qt_kept qt_buyers qt_tries qt_trial qt_row qt_plan qt_now qt_plan_value qt_plan_weight qt_plan_slugWeight qt_plan_rhythm qt_plan_rhythmLength qt_plan_paidBy qt_now_tube qt_now_goods qt_now_stick qt_now_kicks qt_now_kickCount qt_now_low qt_now_high qt_now_price qt_now_wired : Nat) (it_faultAt : Int32) (it_plan_kinds : Int32) (it_plan_columns : Int32) (it_plan_slugs : Int32) (it_now_lost : Int32) (it_now_stamps : Int32) (it_now_sales : Int32) (it_now_damp : Int32) (it_now_worn : Int32) (it_now_seed : Int32) (ft_now_stick : Nat → Int32) (ft_now_kicks : Nat → Int32) (ft_now_kickCount : Nat → Int32) (ft_plan_rhythmLength : Nat → Int32) (ft_plan_rhythm : Nat → Int32) (x1 : Int32) (x2 : Int32) (N : Nat) (r0 : Int32) (w_ft_now_stick : Nat → Int32) (w_ft_now_kicks : Nat → Int32) (w_ft_now_kickCount : Nat → Int32) (h : fX7_kick N it_plan_columns ft_now_stick ft_now_kicks ft_now_kickCount ft_plan_rhythmLength ft_plan_rhythm x1 x2 = some (r0, w_ft_now_stick, w_ft_now_kicks, w_ft_now_kickCount)) : CtI l yX7_kick wsX7_kick { frames := 2, cells := 0, slots := 0, locals := 43 } D (TY cI cZ cB cS) kK kV [.ref qt, .int x1, .int x2] [(qt, .inr (7, [.ref qt_text, .ref qt_reader, .ref qt_images, .ref qt_kept, .ref qt_buyers, .ref qt_tries, .ref qt_trial, .ref qt_row, .ref qt_plan, .ref qt_now, .int it_faultAt])), (qt_plan, .inr (1, [.ref qt_plan_value, .ref qt_plan_weight, .ref qt_plan_slugWeight, .ref qt_plan_rhythm, .ref qt_plan_rhythmLength, .ref qt_plan_paidBy, .int it_plan_kinds, .int it_plan_columns, .int it_plan_slugs])), (qt_now, .inr (4, [.ref qt_now_tube, .ref qt_now_goods, .ref qt_now_stick, .ref qt_now_kicks, .ref qt_now_kickCount, .ref qt_now_low, .ref qt_now_high, .ref qt_now_price, .ref qt_now_wired, .int it_now_lost, .int it_now_stamps, .int it_now_sales, .int it_now_damp, .int it_now_worn, .int it_now_seed])), (qt_now_stick, .inl (cI, 5, .inl ft_now_stick)), (qt_now_kicks, .inl (cI, 5, .inl ft_now_kicks)), (qt_now_kickCount, .inl (cI, 5, .inl ft_now_kickCount)), (qt_plan_rhythmLength, .inl (cI, 5, .inl ft_plan_rhythmLength)), (qt_plan_rhythm, .inl (cI, 5, .inl ft_plan_rhythm))] [(qt, .inr (7, [.ref qt_text, .ref qt_reader, .ref qt_images, .ref qt_kept, .ref qt_buyers, .ref qt_tries, .ref qt_trial, .ref qt_row, .ref qt_plan, .ref qt_now, .int it_faultAt])), (qt_plan, .inr (1, [.ref qt_plan_value, .ref qt_plan_weight, .ref qt_plan_slugWeight, .ref qt_plan_rhythm, .ref qt_plan_rhythmLength, .ref qt_plan_paidBy, .int it_plan_kinds, .int it_plan_columns, .int it_plan_slugs])), (qt_now, .inr (4, [.ref qt_now_tube, .ref qt_now_goods, .ref qt_now_stick, .ref qt_now_kicks, .ref qt_now_kickCount, .ref qt_now_low, .ref qt_now_high, .ref qt_now_price, .ref qt_now_wired, .int it_now_lost, .int it_now_stamps, .int it_now_sales, .int it_now_damp, .int it_now_worn, .int it_now_seed])), (qt_now_stick, .inl (cI, 5, .inl w_ft_now_stick)), (qt_now_kicks, .inl (cI, 5, .inl w_ft_now_kicks)), (qt_now_kickCount, .inl (cI, 5, .inl w_ft_now_kickCount)), (qt_plan_rhythmLength, .inl (cI, 5, .inl ft_plan_rhythmLength)), (qt_plan_rhythm, .inl (cI, 5, .inl ft_plan_rhythm))] sz r0 := by
  refine mkI (cc := cX7_kick) (maxL := 3) (rt := .int) (own := RX7) (by decide) rfl rfl (Nat.le_of_ble_eq_true rfl) ?_
  intro p e s m args below meth c A Z ls hx hb hml hown hts hK hN hX hP hD hA hS hret hl
  have hl : lv_has ls 3 [(0, .ref qt), (1, .int x1), (2, .int x2)] := hl
  have fl64 : (Cond.fieldLink RX7 64 "SoupWall" "plan" "LSoupWall$Plan;").before args s = true := hts _ (List.mem_of_getElem? (l := wsX7_kick) (i := 1) rfl)
  have hiX7 : ∀ w ∈ wsX70, w ∈ wsX7_kick := fun w h => List.mem_cons_of_mem _ (List.mem_append_left _ (List.mem_append_left _ (List.mem_append_right _ h)))
  have fl68 : (Cond.fieldLink RX7 68 "SoupWall" "now" "LSoupWall$State;").before args s = true := hts _ (List.mem_of_getElem? (l := wsX7_kick) (i := 4) rfl)
  have fl196 : (Cond.fieldLinkNest "SoupWall" 196 "SoupWall$State" "kicks" "[I" "SoupWall").before args s = true := hN.f 17 rfl
  have hiX4 : ∀ w ∈ wsX40, w ∈ wsX7_kick := fun w h => List.mem_cons_of_mem _ (List.mem_append_left _ (List.mem_append_right _ h))
  have fl199 : (Cond.fieldLinkNest "SoupWall" 199 "SoupWall$State" "kickCount" "[I" "SoupWall").before args s = true := hN.f 18 rfl
  have cn191 : (Cond.constant RX7 191 (-1000000003)).before args s = true := hts _ (List.mem_of_getElem? (l := wsX7_kick) (i := 5) rfl)
  have cn75 : (Cond.constant RX7 75 (-1000000002)).before args s = true := hts _ (List.mem_of_getElem? (l := wsX7_kick) (i := 3) rfl)
  have cn137 : (Cond.constant RX7 137 (-1000000001)).before args s = true := hts _ (List.mem_of_getElem? (l := wsX7_kick) (i := 2) rfl)
  unfold fX7_kick at h
  refine lv_aload_n hx hb dX7_kick_0 rfl (lv_at hl 0 rfl) ?_
  refine va_get (ci := 7) (v := .ref qt_plan) (C := RX7) (T := TX7) (N := 11) hx hb hts hiX7 hown hK hP 0 rfl rfl 8 (by decide) fl64 (fun _ h9 => h9) rfl dX7_kick_1 ?_
  refine lv_iload_n hx hb dX7_kick_4 rfl (lv_at hl 1 rfl) ?_
  replace h := bd_el h
  obtain ⟨r1, hc2, h⟩ := h
  refine callVI (rest := []) ⟨hx, hb, hml, hown, hts⟩ (ctX1_isColumn l D cI cZ cB cS kK kV _ qt_plan qt_plan_value qt_plan_weight qt_plan_slugWeight qt_plan_rhythm qt_plan_rhythmLength qt_plan_paidBy it_plan_kinds it_plan_columns it_plan_slugs x1 N r1 hc2) (cwV 1 hts gX7_kick_X1_isColumn rfl rfl rfl hdX1_isColumn ⟨Nat.le_of_ble_eq_true rfl, Nat.le_of_ble_eq_true rfl⟩) hK hN hX hP (dF hD rfl) hS hA [1] (mcC rfl mcN) (by decide +kernel) [(qt, .inr (7, [.ref qt_text, .ref qt_reader, .ref qt_images, .ref qt_kept, .ref qt_buyers, .ref qt_tries, .ref qt_trial, .ref qt_row, .ref qt_plan, .ref qt_now, .int it_faultAt])), (qt_plan, .inr (1, [.ref qt_plan_value, .ref qt_plan_weight, .ref qt_plan_slugWeight, .ref qt_plan_rhythm, .ref qt_plan_rhythmLength, .ref qt_plan_paidBy, .int it_plan_kinds, .int it_plan_columns, .int it_plan_slugs])), (qt_now, .inr (4, [.ref qt_now_tube, .ref qt_now_goods, .ref qt_now_stick, .ref qt_now_kicks, .ref qt_now_kickCount, .ref qt_now_low, .ref qt_now_high, .ref qt_now_price, .ref qt_now_wired, .int it_now_lost, .int it_now_stamps, .int it_now_sales, .int it_now_damp, .int it_now_worn, .int it_now_seed])), (qt_now_stick, .inl (cI, 5, .inl ft_now_stick)), (qt_now_kicks, .inl (cI, 5, .inl ft_now_kicks)), (qt_now_kickCount, .inl (cI, 5, .inl ft_now_kickCount)), (qt_plan_rhythmLength, .inl (cI, 5, .inl ft_plan_rhythmLength)), (qt_plan_rhythm, .inl (cI, 5, .inl ft_plan_rhythm))] [0, 2, 3, 4, 5, 6, 7] (mcC rfl mcN) ((mcC rfl (mcC rfl (mcC rfl (mcC rfl (mcC rfl (mcC rfl (mcC rfl mcN))))))).trans (mcC rfl (mcC rfl (mcC rfl (mcC rfl (mcC rfl (mcC rfl (mcC rfl mcN))))))).symm) 8 rfl (by decide +kernel) (va_recv hK hP (ci := 1) (q0 := 1) rfl rfl) rfl hl.1 rfl (Nat.le_of_ble_eq_true rfl) ⟨Nat.zero_le _, Nat.zero_le _⟩ dX7_kick_5 (fun H locs hP hS => ?_)
  refine lv_if_ne (tgt := 14) hx hb dX7_kick_8 (by decide) (fun c3 => ?_) (fun c3 => ?_)
  · replace h := if_f c3 h
    refine lv_iload_n hx hb dX7_kick_14 rfl (lv_at hl 2 rfl) ?_
    refine lv_if_eq (tgt := 26) hx hb dX7_kick_15 (by decide) (fun c4 => ?_) (fun c4 => ?_)
    · replace h := if_t c4 h
      refine lv_aload_n hx hb dX7_kick_26 rfl (lv_at hl 0 rfl) ?_
      refine va_get (ci := 7) (v := .ref qt_now) (C := RX7) (T := TX7) (N := 11) hx hb hts hiX7 hown hK hP 0 rfl rfl 9 (by decide) fl68 (fun _ h9 => h9) rfl dX7_kick_27 ?_
      refine lv_iload_n hx hb dX7_kick_30 rfl (lv_at hl 1 rfl) ?_
      replace h := bd_el h
      obtain ⟨r5, hc6, h⟩ := h
      refine callVI (rest := []) ⟨hx, hb, hml, hown, hts⟩ (ctX4_isJammed l D cI cZ cB cS kK kV _ qt_now qt_now_tube qt_now_goods qt_now_stick qt_now_kicks qt_now_kickCount qt_now_low qt_now_high qt_now_price qt_now_wired it_now_lost it_now_stamps it_now_sales it_now_damp it_now_worn it_now_seed ft_now_stick x1 N r5 hc6) (cwV 1 hts gX7_kick_X4_isJammed rfl rfl rfl hdX4_isJammed ⟨Nat.le_of_ble_eq_true rfl, Nat.le_of_ble_eq_true rfl⟩) hK hN hX hP (dF hD rfl) hS hA [2, 3] (mcC rfl (mcC rfl mcN)) (by decide +kernel) [(qt, .inr (7, [.ref qt_text, .ref qt_reader, .ref qt_images, .ref qt_kept, .ref qt_buyers, .ref qt_tries, .ref qt_trial, .ref qt_row, .ref qt_plan, .ref qt_now, .int it_faultAt])), (qt_plan, .inr (1, [.ref qt_plan_value, .ref qt_plan_weight, .ref qt_plan_slugWeight, .ref qt_plan_rhythm, .ref qt_plan_rhythmLength, .ref qt_plan_paidBy, .int it_plan_kinds, .int it_plan_columns, .int it_plan_slugs])), (qt_now, .inr (4, [.ref qt_now_tube, .ref qt_now_goods, .ref qt_now_stick, .ref qt_now_kicks, .ref qt_now_kickCount, .ref qt_now_low, .ref qt_now_high, .ref qt_now_price, .ref qt_now_wired, .int it_now_lost, .int it_now_stamps, .int it_now_sales, .int it_now_damp, .int it_now_worn, .int it_now_seed])), (qt_now_stick, .inl (cI, 5, .inl ft_now_stick)), (qt_now_kicks, .inl (cI, 5, .inl ft_now_kicks)), (qt_now_kickCount, .inl (cI, 5, .inl ft_now_kickCount)), (qt_plan_rhythmLength, .inl (cI, 5, .inl ft_plan_rhythmLength)), (qt_plan_rhythm, .inl (cI, 5, .inl ft_plan_rhythm))] [0, 1, 4, 5, 6, 7] (mcC rfl (mcC rfl mcN)) ((mcC rfl (mcC rfl (mcC rfl (mcC rfl (mcC rfl (mcC rfl mcN)))))).trans (mcC rfl (mcC rfl (mcC rfl (mcC rfl (mcC rfl (mcC rfl mcN)))))).symm) 8 rfl (by decide +kernel) (va_recv hK hP (ci := 4) (q0 := 2) rfl rfl) rfl hl.1 rfl (Nat.le_of_ble_eq_true rfl) ⟨Nat.zero_le _, Nat.zero_le _⟩ dX7_kick_31 (fun H locs hP hS => ?_)
      refine lv_if_ne (tgt := 40) hx hb dX7_kick_34 (by decide) (fun c7 => ?_) (fun c7 => ?_)
      · replace h := if_f c7 h
        refine lv_aload_n hx hb dX7_kick_40 rfl (lv_at hl 0 rfl) ?_
        refine va_get (ci := 7) (v := .ref qt_now) (C := RX7) (T := TX7) (N := 11) hx hb hts hiX7 hown hK hP 0 rfl rfl 9 (by decide) fl68 (fun _ h9 => h9) rfl dX7_kick_41 ?_
        refine lv_iload_n hx hb dX7_kick_44 rfl (lv_at hl 1 rfl) ?_
        refine lv_iload_n hx hb dX7_kick_45 rfl (lv_at hl 2 rfl) ?_
        replace h := bd_el h
        obtain ⟨⟨g8, g9⟩, hc10, h⟩ := h
        refine callVV (rest := []) ⟨hx, hb, hml, hown, hts⟩ (ctX4_addKick l D cI cZ cB cS kK kV _ qt_now qt_now_tube qt_now_goods qt_now_stick qt_now_kicks qt_now_kickCount qt_now_low qt_now_high qt_now_price qt_now_wired it_now_lost it_now_stamps it_now_sales it_now_damp it_now_worn it_now_seed ft_now_kicks ft_now_kickCount x1 x2 N g8 g9 hc10) (cwV 2 hts gX7_kick_X4_addKick rfl rfl rfl hdX4_addKick ⟨Nat.le_of_ble_eq_true rfl, Nat.le_of_ble_eq_true rfl⟩) hK hN hX hP (dF hD rfl) hS hA [2, 4, 5] (mcC rfl (mcC rfl (mcC rfl mcN))) (by decide +kernel) [(qt, .inr (7, [.ref qt_text, .ref qt_reader, .ref qt_images, .ref qt_kept, .ref qt_buyers, .ref qt_tries, .ref qt_trial, .ref qt_row, .ref qt_plan, .ref qt_now, .int it_faultAt])), (qt_plan, .inr (1, [.ref qt_plan_value, .ref qt_plan_weight, .ref qt_plan_slugWeight, .ref qt_plan_rhythm, .ref qt_plan_rhythmLength, .ref qt_plan_paidBy, .int it_plan_kinds, .int it_plan_columns, .int it_plan_slugs])), (qt_now, .inr (4, [.ref qt_now_tube, .ref qt_now_goods, .ref qt_now_stick, .ref qt_now_kicks, .ref qt_now_kickCount, .ref qt_now_low, .ref qt_now_high, .ref qt_now_price, .ref qt_now_wired, .int it_now_lost, .int it_now_stamps, .int it_now_sales, .int it_now_damp, .int it_now_worn, .int it_now_seed])), (qt_now_stick, .inl (cI, 5, .inl ft_now_stick)), (qt_now_kicks, .inl (cI, 5, .inl g8)), (qt_now_kickCount, .inl (cI, 5, .inl g9)), (qt_plan_rhythmLength, .inl (cI, 5, .inl ft_plan_rhythmLength)), (qt_plan_rhythm, .inl (cI, 5, .inl ft_plan_rhythm))] [0, 1, 3, 6, 7] (mcC rfl (mcC rfl (mcC rfl mcN))) ((mcC rfl (mcC rfl (mcC rfl (mcC rfl (mcC rfl mcN))))).trans (mcC rfl (mcC rfl (mcC rfl (mcC rfl (mcC rfl mcN))))).symm) 8 rfl (by decide +kernel) (va_recv hK hP (ci := 4) (q0 := 2) rfl rfl) rfl hl.1 rfl (Nat.le_of_ble_eq_true rfl) ⟨Nat.zero_le _, Nat.zero_le _⟩ dX7_kick_46 (fun H locs hP hS => ?_)
        refine lv_aload_n hx hb dX7_kick_49 rfl (lv_at hl 0 rfl) ?_
        refine va_get (ci := 7) (v := .ref qt_plan) (C := RX7) (T := TX7) (N := 11) hx hb hts hiX7 hown hK hP 0 rfl rfl 8 (by decide) fl64 (fun _ h9 => h9) rfl dX7_kick_50 ?_
        refine lv_iload_n hx hb dX7_kick_53 rfl (lv_at hl 1 rfl) ?_
        refine lv_aload_n hx hb dX7_kick_54 rfl (lv_at hl 0 rfl) ?_
        refine va_get (ci := 7) (v := .ref qt_now) (C := RX7) (T := TX7) (N := 11) hx hb hts hiX7 hown hK hP 0 rfl rfl 9 (by decide) fl68 (fun _ h9 => h9) rfl dX7_kick_55 ?_
        refine va_getN (ci := 4) (v := .ref qt_now_kicks) (C := RX4) (T := TX4) (N := 15) hx hb hts hiX4 hown hK hP 2 rfl rfl 3 (by decide) fl196 (fun _ h9 => h9) rfl dX7_kick_58 ?_
        refine lv_iload_n hx hb dX7_kick_61 rfl (lv_at hl 1 rfl) ?_
        replace h := ck_el h
        obtain ⟨hi11, h⟩ := h
        refine va_iald hx hb hK hP 4 0 rfl rfl hi11 dX7_kick_62 ?_
        refine lv_aload_n hx hb dX7_kick_63 rfl (lv_at hl 0 rfl) ?_
        refine va_get (ci := 7) (v := .ref qt_now) (C := RX7) (T := TX7) (N := 11) hx hb hts hiX7 hown hK hP 0 rfl rfl 9 (by decide) fl68 (fun _ h9 => h9) rfl dX7_kick_64 ?_
        refine va_getN (ci := 4) (v := .ref qt_now_kickCount) (C := RX4) (T := TX4) (N := 15) hx hb hts hiX4 hown hK hP 2 rfl rfl 4 (by decide) fl199 (fun _ h9 => h9) rfl dX7_kick_67 ?_
        refine lv_iload_n hx hb dX7_kick_70 rfl (lv_at hl 1 rfl) ?_
        refine va_iald hx hb hK hP 5 0 rfl rfl hi11 dX7_kick_71 ?_
        replace h := bd_el h
        obtain ⟨r12, hc13, h⟩ := h
        refine callVI (rest := []) ⟨hx, hb, hml, hown, hts⟩ (ctX1_isRhythm l D cI cZ cB cS kK kV _ qt_plan qt_plan_value qt_plan_weight qt_plan_slugWeight qt_plan_rhythm qt_plan_rhythmLength qt_plan_paidBy it_plan_kinds it_plan_columns it_plan_slugs ft_plan_rhythmLength ft_plan_rhythm x1 (g8 (Int32.toNatClampNeg x1)) (g9 (Int32.toNatClampNeg x1)) N r12 hc13) (cwV 3 hts gX7_kick_X1_isRhythm rfl rfl rfl hdX1_isRhythm ⟨Nat.le_of_ble_eq_true rfl, Nat.le_of_ble_eq_true rfl⟩) hK hN hX hP (dF hD rfl) hS hA [1, 6, 7] (mcC rfl (mcC rfl (mcC rfl mcN))) (by decide +kernel) [(qt, .inr (7, [.ref qt_text, .ref qt_reader, .ref qt_images, .ref qt_kept, .ref qt_buyers, .ref qt_tries, .ref qt_trial, .ref qt_row, .ref qt_plan, .ref qt_now, .int it_faultAt])), (qt_plan, .inr (1, [.ref qt_plan_value, .ref qt_plan_weight, .ref qt_plan_slugWeight, .ref qt_plan_rhythm, .ref qt_plan_rhythmLength, .ref qt_plan_paidBy, .int it_plan_kinds, .int it_plan_columns, .int it_plan_slugs])), (qt_now, .inr (4, [.ref qt_now_tube, .ref qt_now_goods, .ref qt_now_stick, .ref qt_now_kicks, .ref qt_now_kickCount, .ref qt_now_low, .ref qt_now_high, .ref qt_now_price, .ref qt_now_wired, .int it_now_lost, .int it_now_stamps, .int it_now_sales, .int it_now_damp, .int it_now_worn, .int it_now_seed])), (qt_now_stick, .inl (cI, 5, .inl ft_now_stick)), (qt_now_kicks, .inl (cI, 5, .inl g8)), (qt_now_kickCount, .inl (cI, 5, .inl g9)), (qt_plan_rhythmLength, .inl (cI, 5, .inl ft_plan_rhythmLength)), (qt_plan_rhythm, .inl (cI, 5, .inl ft_plan_rhythm))] [0, 2, 3, 4, 5] (mcC rfl (mcC rfl (mcC rfl mcN))) ((mcC rfl (mcC rfl (mcC rfl (mcC rfl (mcC rfl mcN))))).trans (mcC rfl (mcC rfl (mcC rfl (mcC rfl (mcC rfl mcN))))).symm) 8 rfl (by decide +kernel) (va_recv hK hP (ci := 1) (q0 := 1) rfl rfl) rfl hl.1 rfl (Nat.le_of_ble_eq_true rfl) ⟨Nat.zero_le _, Nat.zero_le _⟩ dX7_kick_72 (fun H locs hP hS => ?_)
        refine lv_if_ne (tgt := 80) hx hb dX7_kick_75 (by decide) (fun c14 => ?_) (fun c14 => ?_)
        · replace h := if_f c14 h
          refine lv_aload_n hx hb dX7_kick_80 rfl (lv_at hl 0 rfl) ?_
          refine va_get (ci := 7) (v := .ref qt_now) (C := RX7) (T := TX7) (N := 11) hx hb hts hiX7 hown hK hP 0 rfl rfl 9 (by decide) fl68 (fun _ h9 => h9) rfl dX7_kick_81 ?_
          refine lv_iload_n hx hb dX7_kick_84 rfl (lv_at hl 1 rfl) ?_
          replace h := bd_el h
          obtain ⟨⟨g15, g16, g17⟩, hc18, h⟩ := h
          refine callVV (rest := []) ⟨hx, hb, hml, hown, hts⟩ (ctX4_setFree l D cI cZ cB cS kK kV _ qt_now qt_now_tube qt_now_goods qt_now_stick qt_now_kicks qt_now_kickCount qt_now_low qt_now_high qt_now_price qt_now_wired it_now_lost it_now_stamps it_now_sales it_now_damp it_now_worn it_now_seed ft_now_stick g8 g9 x1 N g15 g16 g17 hc18) (cwV 1 hts gX7_kick_X4_setFree rfl rfl rfl hdX4_setFree ⟨Nat.le_of_ble_eq_true rfl, Nat.le_of_ble_eq_true rfl⟩) hK hN hX hP (dF hD rfl) hS hA [2, 3, 4, 5] (mcC rfl (mcC rfl (mcC rfl (mcC rfl mcN)))) (by decide +kernel) [(qt, .inr (7, [.ref qt_text, .ref qt_reader, .ref qt_images, .ref qt_kept, .ref qt_buyers, .ref qt_tries, .ref qt_trial, .ref qt_row, .ref qt_plan, .ref qt_now, .int it_faultAt])), (qt_plan, .inr (1, [.ref qt_plan_value, .ref qt_plan_weight, .ref qt_plan_slugWeight, .ref qt_plan_rhythm, .ref qt_plan_rhythmLength, .ref qt_plan_paidBy, .int it_plan_kinds, .int it_plan_columns, .int it_plan_slugs])), (qt_now, .inr (4, [.ref qt_now_tube, .ref qt_now_goods, .ref qt_now_stick, .ref qt_now_kicks, .ref qt_now_kickCount, .ref qt_now_low, .ref qt_now_high, .ref qt_now_price, .ref qt_now_wired, .int it_now_lost, .int it_now_stamps, .int it_now_sales, .int it_now_damp, .int it_now_worn, .int it_now_seed])), (qt_now_stick, .inl (cI, 5, .inl g15)), (qt_now_kicks, .inl (cI, 5, .inl g16)), (qt_now_kickCount, .inl (cI, 5, .inl g17)), (qt_plan_rhythmLength, .inl (cI, 5, .inl ft_plan_rhythmLength)), (qt_plan_rhythm, .inl (cI, 5, .inl ft_plan_rhythm))] [0, 1, 6, 7] (mcC rfl (mcC rfl (mcC rfl (mcC rfl mcN)))) ((mcC rfl (mcC rfl (mcC rfl (mcC rfl mcN)))).trans (mcC rfl (mcC rfl (mcC rfl (mcC rfl mcN)))).symm) 8 rfl (by decide +kernel) (va_recv hK hP (ci := 4) (q0 := 2) rfl rfl) rfl hl.1 rfl (Nat.le_of_ble_eq_true rfl) ⟨Nat.zero_le _, Nat.zero_le _⟩ dX7_kick_85 (fun H locs hP hS => ?_)
          refine lv_iconst (v := 1) hx hb dX7_kick_88 (by decide) ?_
          simp only [Option.some.injEq, Prod.mk.injEq] at h
          obtain ⟨rfl, rfl, rfl, rfl⟩ := h
          exact hret _ _ _ _ hP hS rfl dX7_kick_89
        · replace h := if_t c14 h
          refine lv_iconst (v := 0) hx hb dX7_kick_78 (by decide) ?_
          simp only [Option.some.injEq, Prod.mk.injEq] at h
          obtain ⟨rfl, rfl, rfl, rfl⟩ := h
          exact hret _ _ _ _ hP hS rfl dX7_kick_79
      · replace h := if_t c7 h
        refine lv_ldc (v := (-1000000003)) hx hb hown cn191 dX7_kick_37 ?_
        simp only [Option.some.injEq, Prod.mk.injEq] at h
        obtain ⟨rfl, rfl, rfl, rfl⟩ := h
        exact hret _ _ _ _ hP hS rfl dX7_kick_39
    · replace h := if_f c4 h
      refine lv_iload_n hx hb dX7_kick_18 rfl (lv_at hl 2 rfl) ?_
      refine lv_iconst (v := 1) hx hb dX7_kick_19 (by decide) ?_
      refine lv_icmp_eq (tgt := 26) hx hb dX7_kick_20 (by decide) (fun c19 => ?_) (fun c19 => ?_)
      · replace h := if_t c19 h
        refine lv_aload_n hx hb dX7_kick_26 rfl (lv_at hl 0 rfl) ?_
        refine va_get (ci := 7) (v := .ref qt_now) (C := RX7) (T := TX7) (N := 11) hx hb hts hiX7 hown hK hP 0 rfl rfl 9 (by decide) fl68 (fun _ h9 => h9) rfl dX7_kick_27 ?_
        refine lv_iload_n hx hb dX7_kick_30 rfl (lv_at hl 1 rfl) ?_
        replace h := bd_el h
        obtain ⟨r20, hc21, h⟩ := h
        refine callVI (rest := []) ⟨hx, hb, hml, hown, hts⟩ (ctX4_isJammed l D cI cZ cB cS kK kV _ qt_now qt_now_tube qt_now_goods qt_now_stick qt_now_kicks qt_now_kickCount qt_now_low qt_now_high qt_now_price qt_now_wired it_now_lost it_now_stamps it_now_sales it_now_damp it_now_worn it_now_seed ft_now_stick x1 N r20 hc21) (cwV 1 hts gX7_kick_X4_isJammed rfl rfl rfl hdX4_isJammed ⟨Nat.le_of_ble_eq_true rfl, Nat.le_of_ble_eq_true rfl⟩) hK hN hX hP (dF hD rfl) hS hA [2, 3] (mcC rfl (mcC rfl mcN)) (by decide +kernel) [(qt, .inr (7, [.ref qt_text, .ref qt_reader, .ref qt_images, .ref qt_kept, .ref qt_buyers, .ref qt_tries, .ref qt_trial, .ref qt_row, .ref qt_plan, .ref qt_now, .int it_faultAt])), (qt_plan, .inr (1, [.ref qt_plan_value, .ref qt_plan_weight, .ref qt_plan_slugWeight, .ref qt_plan_rhythm, .ref qt_plan_rhythmLength, .ref qt_plan_paidBy, .int it_plan_kinds, .int it_plan_columns, .int it_plan_slugs])), (qt_now, .inr (4, [.ref qt_now_tube, .ref qt_now_goods, .ref qt_now_stick, .ref qt_now_kicks, .ref qt_now_kickCount, .ref qt_now_low, .ref qt_now_high, .ref qt_now_price, .ref qt_now_wired, .int it_now_lost, .int it_now_stamps, .int it_now_sales, .int it_now_damp, .int it_now_worn, .int it_now_seed])), (qt_now_stick, .inl (cI, 5, .inl ft_now_stick)), (qt_now_kicks, .inl (cI, 5, .inl ft_now_kicks)), (qt_now_kickCount, .inl (cI, 5, .inl ft_now_kickCount)), (qt_plan_rhythmLength, .inl (cI, 5, .inl ft_plan_rhythmLength)), (qt_plan_rhythm, .inl (cI, 5, .inl ft_plan_rhythm))] [0, 1, 4, 5, 6, 7] (mcC rfl (mcC rfl mcN)) ((mcC rfl (mcC rfl (mcC rfl (mcC rfl (mcC rfl (mcC rfl mcN)))))).trans (mcC rfl (mcC rfl (mcC rfl (mcC rfl (mcC rfl (mcC rfl mcN)))))).symm) 8 rfl (by decide +kernel) (va_recv hK hP (ci := 4) (q0 := 2) rfl rfl) rfl hl.1 rfl (Nat.le_of_ble_eq_true rfl) ⟨Nat.zero_le _, Nat.zero_le _⟩ dX7_kick_31 (fun H locs hP hS => ?_)
        refine lv_if_ne (tgt := 40) hx hb dX7_kick_34 (by decide) (fun c22 => ?_) (fun c22 => ?_)
        · replace h := if_f c22 h
          refine lv_aload_n hx hb dX7_kick_40 rfl (lv_at hl 0 rfl) ?_
          refine va_get (ci := 7) (v := .ref qt_now) (C := RX7) (T := TX7) (N := 11) hx hb hts hiX7 hown hK hP 0 rfl rfl 9 (by decide) fl68 (fun _ h9 => h9) rfl dX7_kick_41 ?_
          refine lv_iload_n hx hb dX7_kick_44 rfl (lv_at hl 1 rfl) ?_
          refine lv_iload_n hx hb dX7_kick_45 rfl (lv_at hl 2 rfl) ?_
          replace h := bd_el h
          obtain ⟨⟨g23, g24⟩, hc25, h⟩ := h
          refine callVV (rest := []) ⟨hx, hb, hml, hown, hts⟩ (ctX4_addKick l D cI cZ cB cS kK kV _ qt_now qt_now_tube qt_now_goods qt_now_stick qt_now_kicks qt_now_kickCount qt_now_low qt_now_high qt_now_price qt_now_wired it_now_lost it_now_stamps it_now_sales it_now_damp it_now_worn it_now_seed ft_now_kicks ft_now_kickCount x1 x2 N g23 g24 hc25) (cwV 2 hts gX7_kick_X4_addKick rfl rfl rfl hdX4_addKick ⟨Nat.le_of_ble_eq_true rfl, Nat.le_of_ble_eq_true rfl⟩) hK hN hX hP (dF hD rfl) hS hA [2, 4, 5] (mcC rfl (mcC rfl (mcC rfl mcN))) (by decide +kernel) [(qt, .inr (7, [.ref qt_text, .ref qt_reader, .ref qt_images, .ref qt_kept, .ref qt_buyers, .ref qt_tries, .ref qt_trial, .ref qt_row, .ref qt_plan, .ref qt_now, .int it_faultAt])), (qt_plan, .inr (1, [.ref qt_plan_value, .ref qt_plan_weight, .ref qt_plan_slugWeight, .ref qt_plan_rhythm, .ref qt_plan_rhythmLength, .ref qt_plan_paidBy, .int it_plan_kinds, .int it_plan_columns, .int it_plan_slugs])), (qt_now, .inr (4, [.ref qt_now_tube, .ref qt_now_goods, .ref qt_now_stick, .ref qt_now_kicks, .ref qt_now_kickCount, .ref qt_now_low, .ref qt_now_high, .ref qt_now_price, .ref qt_now_wired, .int it_now_lost, .int it_now_stamps, .int it_now_sales, .int it_now_damp, .int it_now_worn, .int it_now_seed])), (qt_now_stick, .inl (cI, 5, .inl ft_now_stick)), (qt_now_kicks, .inl (cI, 5, .inl g23)), (qt_now_kickCount, .inl (cI, 5, .inl g24)), (qt_plan_rhythmLength, .inl (cI, 5, .inl ft_plan_rhythmLength)), (qt_plan_rhythm, .inl (cI, 5, .inl ft_plan_rhythm))] [0, 1, 3, 6, 7] (mcC rfl (mcC rfl (mcC rfl mcN))) ((mcC rfl (mcC rfl (mcC rfl (mcC rfl (mcC rfl mcN))))).trans (mcC rfl (mcC rfl (mcC rfl (mcC rfl (mcC rfl mcN))))).symm) 8 rfl (by decide +kernel) (va_recv hK hP (ci := 4) (q0 := 2) rfl rfl) rfl hl.1 rfl (Nat.le_of_ble_eq_true rfl) ⟨Nat.zero_le _, Nat.zero_le _⟩ dX7_kick_46 (fun H locs hP hS => ?_)
          refine lv_aload_n hx hb dX7_kick_49 rfl (lv_at hl 0 rfl) ?_
          refine va_get (ci := 7) (v := .ref qt_plan) (C := RX7) (T := TX7) (N := 11) hx hb hts hiX7 hown hK hP 0 rfl rfl 8 (by decide) fl64 (fun _ h9 => h9) rfl dX7_kick_50 ?_
          refine lv_iload_n hx hb dX7_kick_53 rfl (lv_at hl 1 rfl) ?_
          refine lv_aload_n hx hb dX7_kick_54 rfl (lv_at hl 0 rfl) ?_
          refine va_get (ci := 7) (v := .ref qt_now) (C := RX7) (T := TX7) (N := 11) hx hb hts hiX7 hown hK hP 0 rfl rfl 9 (by decide) fl68 (fun _ h9 => h9) rfl dX7_kick_55 ?_
          refine va_getN (ci := 4) (v := .ref qt_now_kicks) (C := RX4) (T := TX4) (N := 15) hx hb hts hiX4 hown hK hP 2 rfl rfl 3 (by decide) fl196 (fun _ h9 => h9) rfl dX7_kick_58 ?_
          refine lv_iload_n hx hb dX7_kick_61 rfl (lv_at hl 1 rfl) ?_
          replace h := ck_el h
          obtain ⟨hi26, h⟩ := h
          refine va_iald hx hb hK hP 4 0 rfl rfl hi26 dX7_kick_62 ?_
          refine lv_aload_n hx hb dX7_kick_63 rfl (lv_at hl 0 rfl) ?_
          refine va_get (ci := 7) (v := .ref qt_now) (C := RX7) (T := TX7) (N := 11) hx hb hts hiX7 hown hK hP 0 rfl rfl 9 (by decide) fl68 (fun _ h9 => h9) rfl dX7_kick_64 ?_
          refine va_getN (ci := 4) (v := .ref qt_now_kickCount) (C := RX4) (T := TX4) (N := 15) hx hb hts hiX4 hown hK hP 2 rfl rfl 4 (by decide) fl199 (fun _ h9 => h9) rfl dX7_kick_67 ?_
          refine lv_iload_n hx hb dX7_kick_70 rfl (lv_at hl 1 rfl) ?_
          refine va_iald hx hb hK hP 5 0 rfl rfl hi26 dX7_kick_71 ?_
          replace h := bd_el h
          obtain ⟨r27, hc28, h⟩ := h
          refine callVI (rest := []) ⟨hx, hb, hml, hown, hts⟩ (ctX1_isRhythm l D cI cZ cB cS kK kV _ qt_plan qt_plan_value qt_plan_weight qt_plan_slugWeight qt_plan_rhythm qt_plan_rhythmLength qt_plan_paidBy it_plan_kinds it_plan_columns it_plan_slugs ft_plan_rhythmLength ft_plan_rhythm x1 (g23 (Int32.toNatClampNeg x1)) (g24 (Int32.toNatClampNeg x1)) N r27 hc28) (cwV 3 hts gX7_kick_X1_isRhythm rfl rfl rfl hdX1_isRhythm ⟨Nat.le_of_ble_eq_true rfl, Nat.le_of_ble_eq_true rfl⟩) hK hN hX hP (dF hD rfl) hS hA [1, 6, 7] (mcC rfl (mcC rfl (mcC rfl mcN))) (by decide +kernel) [(qt, .inr (7, [.ref qt_text, .ref qt_reader, .ref qt_images, .ref qt_kept, .ref qt_buyers, .ref qt_tries, .ref qt_trial, .ref qt_row, .ref qt_plan, .ref qt_now, .int it_faultAt])), (qt_plan, .inr (1, [.ref qt_plan_value, .ref qt_plan_weight, .ref qt_plan_slugWeight, .ref qt_plan_rhythm, .ref qt_plan_rhythmLength, .ref qt_plan_paidBy, .int it_plan_kinds, .int it_plan_columns, .int it_plan_slugs])), (qt_now, .inr (4, [.ref qt_now_tube, .ref qt_now_goods, .ref qt_now_stick, .ref qt_now_kicks, .ref qt_now_kickCount, .ref qt_now_low, .ref qt_now_high, .ref qt_now_price, .ref qt_now_wired, .int it_now_lost, .int it_now_stamps, .int it_now_sales, .int it_now_damp, .int it_now_worn, .int it_now_seed])), (qt_now_stick, .inl (cI, 5, .inl ft_now_stick)), (qt_now_kicks, .inl (cI, 5, .inl g23)), (qt_now_kickCount, .inl (cI, 5, .inl g24)), (qt_plan_rhythmLength, .inl (cI, 5, .inl ft_plan_rhythmLength)), (qt_plan_rhythm, .inl (cI, 5, .inl ft_plan_rhythm))] [0, 2, 3, 4, 5] (mcC rfl (mcC rfl (mcC rfl mcN))) ((mcC rfl (mcC rfl (mcC rfl (mcC rfl (mcC rfl mcN))))).trans (mcC rfl (mcC rfl (mcC rfl (mcC rfl (mcC rfl mcN))))).symm) 8 rfl (by decide +kernel) (va_recv hK hP (ci := 1) (q0 := 1) rfl rfl) rfl hl.1 rfl (Nat.le_of_ble_eq_true rfl) ⟨Nat.zero_le _, Nat.zero_le _⟩ dX7_kick_72 (fun H locs hP hS => ?_)
          refine lv_if_ne (tgt := 80) hx hb dX7_kick_75 (by decide) (fun c29 => ?_) (fun c29 => ?_)
          · replace h := if_f c29 h
            refine lv_aload_n hx hb dX7_kick_80 rfl (lv_at hl 0 rfl) ?_
            refine va_get (ci := 7) (v := .ref qt_now) (C := RX7) (T := TX7) (N := 11) hx hb hts hiX7 hown hK hP 0 rfl rfl 9 (by decide) fl68 (fun _ h9 => h9) rfl dX7_kick_81 ?_
            refine lv_iload_n hx hb dX7_kick_84 rfl (lv_at hl 1 rfl) ?_
            replace h := bd_el h
            obtain ⟨⟨g30, g31, g32⟩, hc33, h⟩ := h
            refine callVV (rest := []) ⟨hx, hb, hml, hown, hts⟩ (ctX4_setFree l D cI cZ cB cS kK kV _ qt_now qt_now_tube qt_now_goods qt_now_stick qt_now_kicks qt_now_kickCount qt_now_low qt_now_high qt_now_price qt_now_wired it_now_lost it_now_stamps it_now_sales it_now_damp it_now_worn it_now_seed ft_now_stick g23 g24 x1 N g30 g31 g32 hc33) (cwV 1 hts gX7_kick_X4_setFree rfl rfl rfl hdX4_setFree ⟨Nat.le_of_ble_eq_true rfl, Nat.le_of_ble_eq_true rfl⟩) hK hN hX hP (dF hD rfl) hS hA [2, 3, 4, 5] (mcC rfl (mcC rfl (mcC rfl (mcC rfl mcN)))) (by decide +kernel) [(qt, .inr (7, [.ref qt_text, .ref qt_reader, .ref qt_images, .ref qt_kept, .ref qt_buyers, .ref qt_tries, .ref qt_trial, .ref qt_row, .ref qt_plan, .ref qt_now, .int it_faultAt])), (qt_plan, .inr (1, [.ref qt_plan_value, .ref qt_plan_weight, .ref qt_plan_slugWeight, .ref qt_plan_rhythm, .ref qt_plan_rhythmLength, .ref qt_plan_paidBy, .int it_plan_kinds, .int it_plan_columns, .int it_plan_slugs])), (qt_now, .inr (4, [.ref qt_now_tube, .ref qt_now_goods, .ref qt_now_stick, .ref qt_now_kicks, .ref qt_now_kickCount, .ref qt_now_low, .ref qt_now_high, .ref qt_now_price, .ref qt_now_wired, .int it_now_lost, .int it_now_stamps, .int it_now_sales, .int it_now_damp, .int it_now_worn, .int it_now_seed])), (qt_now_stick, .inl (cI, 5, .inl g30)), (qt_now_kicks, .inl (cI, 5, .inl g31)), (qt_now_kickCount, .inl (cI, 5, .inl g32)), (qt_plan_rhythmLength, .inl (cI, 5, .inl ft_plan_rhythmLength)), (qt_plan_rhythm, .inl (cI, 5, .inl ft_plan_rhythm))] [0, 1, 6, 7] (mcC rfl (mcC rfl (mcC rfl (mcC rfl mcN)))) ((mcC rfl (mcC rfl (mcC rfl (mcC rfl mcN)))).trans (mcC rfl (mcC rfl (mcC rfl (mcC rfl mcN)))).symm) 8 rfl (by decide +kernel) (va_recv hK hP (ci := 4) (q0 := 2) rfl rfl) rfl hl.1 rfl (Nat.le_of_ble_eq_true rfl) ⟨Nat.zero_le _, Nat.zero_le _⟩ dX7_kick_85 (fun H locs hP hS => ?_)
            refine lv_iconst (v := 1) hx hb dX7_kick_88 (by decide) ?_
            simp only [Option.some.injEq, Prod.mk.injEq] at h
            obtain ⟨rfl, rfl, rfl, rfl⟩ := h
            exact hret _ _ _ _ hP hS rfl dX7_kick_89
          · replace h := if_t c29 h
            refine lv_iconst (v := 0) hx hb dX7_kick_78 (by decide) ?_
            simp only [Option.some.injEq, Prod.mk.injEq] at h
            obtain ⟨rfl, rfl, rfl, rfl⟩ := h
            exact hret _ _ _ _ hP hS rfl dX7_kick_79
        · replace h := if_t c22 h
          refine lv_ldc (v := (-1000000003)) hx hb hown cn191 dX7_kick_37 ?_
          simp only [Option.some.injEq, Prod.mk.injEq] at h
          obtain ⟨rfl, rfl, rfl, rfl⟩ := h
          exact hret _ _ _ _ hP hS rfl dX7_kick_39
      · replace h := if_f c19 h
        refine lv_ldc (v := (-1000000002)) hx hb hown cn75 dX7_kick_23 ?_
        simp only [Option.some.injEq, Prod.mk.injEq] at h
        obtain ⟨rfl, rfl, rfl, rfl⟩ := h
        exact hret _ _ _ _ hP hS rfl dX7_kick_25
  · replace h := if_t c3 h
    refine lv_ldc (v := (-1000000001)) hx hb hown cn137 dX7_kick_11 ?_
    simp only [Option.some.injEq, Prod.mk.injEq] at h
    obtain ⟨rfl, rfl, rfl, rfl⟩ := h
    exact hret _ _ _ _ hP hS rfl dX7_kick_13
theorem hdX7_kick : yX7_kick.cls = RX7 ∧ yX7_kick.cls ≠ "java/lang/invoke/MethodHandle" ∧ yX7_kick.cls ≠ "java/lang/invoke/VarHandle" ∧ (parseMethodDescriptor yX7_kick.desc).map (fun d => d.parameters.length) = some 2 := by decide +kernel

noncomputable def fX7_damp (N : Nat) (it_now_damp : Int32) (x1 : Int32) : Option (Int32 × Int32) := (if x1 < 0 then some ((-1000000002), it_now_damp) else (if x1 ≤ 9 then some (it_now_damp, x1) else some ((-1000000002), it_now_damp)))
set_option maxHeartbeats 4000000 in
set_option maxRecDepth 100000 in
theorem ctX7_damp (l : Launch) (D : va_G) (cI cZ cB cS : ClassId) (kK kV : Nat → Nat) (sz : Nat) (qt qt_text qt_reader qt_images qt_kept qt_buyers qt_tries qt_trial qt_row qt_plan qt_now qt_now_tube qt_now_goods qt_now_stick qt_now_kicks qt_now_kickCount qt_now_low qt_now_high qt_now_price qt_now_wired : Nat) (it_faultAt : Int32) (it_now_lost : Int32) (it_now_stamps : Int32) (it_now_sales : Int32) (it_now_damp : Int32) (it_now_worn : Int32) (it_now_seed : Int32) (x1 : Int32) (N : Nat) (r0 : Int32) (w_it_now_damp : Int32) (h : fX7_damp N it_now_damp x1 = some (r0, w_it_now_damp)) : CtI l yX7_damp wsX7_damp { frames := 0, cells := 0, slots := 0, locals := 0 } D (TY cI cZ cB cS) kK kV [.ref qt, .int x1] [(qt, .inr (7, [.ref qt_text, .ref qt_reader, .ref qt_images, .ref qt_kept, .ref qt_buyers, .ref qt_tries, .ref qt_trial, .ref qt_row, .ref qt_plan, .ref qt_now, .int it_faultAt])), (qt_now, .inr (4, [.ref qt_now_tube, .ref qt_now_goods, .ref qt_now_stick, .ref qt_now_kicks, .ref qt_now_kickCount, .ref qt_now_low, .ref qt_now_high, .ref qt_now_price, .ref qt_now_wired, .int it_now_lost, .int it_now_stamps, .int it_now_sales, .int it_now_damp, .int it_now_worn, .int it_now_seed]))] [(qt, .inr (7, [.ref qt_text, .ref qt_reader, .ref qt_images, .ref qt_kept, .ref qt_buyers, .ref qt_tries, .ref qt_trial, .ref qt_row, .ref qt_plan, .ref qt_now, .int it_faultAt])), (qt_now, .inr (4, [.ref qt_now_tube, .ref qt_now_goods, .ref qt_now_stick, .ref qt_now_kicks, .ref qt_now_kickCount, .ref qt_now_low, .ref qt_now_high, .ref qt_now_price, .ref qt_now_wired, .int it_now_lost, .int it_now_stamps, .int it_now_sales, .int w_it_now_damp, .int it_now_worn, .int it_now_seed]))] sz r0 := by
  refine mkI (cc := cX7_damp) (maxL := 3) (rt := .int) (own := RX7) (by decide) rfl rfl (Nat.le_of_ble_eq_true rfl) ?_
  intro p e s m args below meth c A Z ls hx hb hml hown hts hK hN hX hP hD hA hS hret hl
  have hl : lv_has ls 3 [(0, .ref qt), (1, .int x1)] := hl
  have cn75 : (Cond.constant RX7 75 (-1000000002)).before args s = true := hts _ (List.mem_of_getElem? (l := wsX7_damp) (i := 1) rfl)
  have fl68 : (Cond.fieldLink RX7 68 "SoupWall" "now" "LSoupWall$State;").before args s = true := hts _ (List.mem_of_getElem? (l := wsX7_damp) (i := 2) rfl)
  have hiX7 : ∀ w ∈ wsX70, w ∈ wsX7_damp := fun w h => List.mem_cons_of_mem _ (List.mem_append_left _ (List.mem_append_right _ h))
  have fl123 : (Cond.fieldLinkNest "SoupWall" 123 "SoupWall$State" "damp" "I" "SoupWall").before args s = true := hN.f 32 rfl
  have hiX4 : ∀ w ∈ wsX40, w ∈ wsX7_damp := fun w h => List.mem_cons_of_mem _ (List.mem_append_right _ h)
  unfold fX7_damp at h
  refine lv_iload_n hx hb dX7_damp_0 rfl (lv_at hl 1 rfl) ?_
  refine lv_if_lt (tgt := 10) hx hb dX7_damp_1 (by decide) (fun c1 => ?_) (fun c1 => ?_)
  · replace h := if_t c1 h
    refine lv_ldc (v := (-1000000002)) hx hb hown cn75 dX7_damp_10 ?_
    simp only [Option.some.injEq, Prod.mk.injEq] at h
    obtain ⟨rfl, rfl⟩ := h
    exact hret _ _ _ _ hP hS rfl dX7_damp_12
  · replace h := if_f c1 h
    refine lv_iload_n hx hb dX7_damp_4 rfl (lv_at hl 1 rfl) ?_
    refine lv_bipush (v := 9) hx hb dX7_damp_5 (by decide) ?_
    refine lv_icmp_le (tgt := 13) hx hb dX7_damp_7 (by decide) (fun c2 => ?_) (fun c2 => ?_)
    · replace h := if_t c2 h
      refine lv_aload_n hx hb dX7_damp_13 rfl (lv_at hl 0 rfl) ?_
      refine va_get (ci := 7) (v := .ref qt_now) (C := RX7) (T := TX7) (N := 11) hx hb hts hiX7 hown hK hP 0 rfl rfl 9 (by decide) fl68 (fun _ h9 => h9) rfl dX7_damp_14 ?_
      refine va_getN (ci := 4) (v := .int it_now_damp) (C := RX4) (T := TX4) (N := 15) hx hb hts hiX4 hown hK hP 1 rfl rfl 12 (by decide) fl123 (fun _ h9 => h9) rfl dX7_damp_17 ?_
      refine lv_istore_n (lv' := [(2, .int it_now_damp), (0, .ref qt), (1, .int x1)]) hx hb dX7_damp_20 rfl hl (by decide) rfl (fun ls hl => ?_)
      refine lv_aload_n hx hb dX7_damp_21 rfl (lv_at hl 1 rfl) ?_
      refine va_get (ci := 7) (v := .ref qt_now) (C := RX7) (T := TX7) (N := 11) hx hb hts hiX7 hown hK hP 0 rfl rfl 9 (by decide) fl68 (fun _ h9 => h9) rfl dX7_damp_22 ?_
      refine lv_iload_n hx hb dX7_damp_25 rfl (lv_at hl 2 rfl) ?_
      refine va_putN (ci := 4) (v := .int x1) (ty := .int) (C := RX4) (T := TX4) (N := 15) hx hb hts hiX4 tyX4 tyX4_ok nmX4 hown hK hP (dF hD rfl) hS 1 rfl rfl 12 (by decide) fl123 (fun _ h9 => h9) rfl (by decide +kernel) rfl rfl (Nat.le_of_ble_eq_true rfl) dX7_damp_26 (fun H locs hP _ hS => ?_)
      replace hP : va_P D vwCl [(qt, .inr (7, [.ref qt_text, .ref qt_reader, .ref qt_images, .ref qt_kept, .ref qt_buyers, .ref qt_tries, .ref qt_trial, .ref qt_row, .ref qt_plan, .ref qt_now, .int it_faultAt])), (qt_now, .inr (4, [.ref qt_now_tube, .ref qt_now_goods, .ref qt_now_stick, .ref qt_now_kicks, .ref qt_now_kickCount, .ref qt_now_low, .ref qt_now_high, .ref qt_now_price, .ref qt_now_wired, .int it_now_lost, .int it_now_stamps, .int it_now_sales, .int x1, .int it_now_worn, .int it_now_seed]))] H := hP
      refine lv_iload_n hx hb dX7_damp_29 rfl (lv_at hl 0 rfl) ?_
      simp only [Option.some.injEq, Prod.mk.injEq] at h
      obtain ⟨rfl, rfl⟩ := h
      exact hret _ _ _ _ hP hS rfl dX7_damp_30
    · replace h := if_f c2 h
      refine lv_ldc (v := (-1000000002)) hx hb hown cn75 dX7_damp_10 ?_
      simp only [Option.some.injEq, Prod.mk.injEq] at h
      obtain ⟨rfl, rfl⟩ := h
      exact hret _ _ _ _ hP hS rfl dX7_damp_12
theorem hdX7_damp : yX7_damp.cls = RX7 ∧ yX7_damp.cls ≠ "java/lang/invoke/MethodHandle" ∧ yX7_damp.cls ≠ "java/lang/invoke/VarHandle" ∧ (parseMethodDescriptor yX7_damp.desc).map (fun d => d.parameters.length) = some 1 := by decide +kernel

noncomputable def fX7_wear (N : Nat) (it_now_worn : Int32) (x1 : Int32) : Option (Int32 × Int32) := (if x1 < 0 then some ((-1000000002), it_now_worn) else (if x1 ≤ 9 then some (it_now_worn, x1) else some ((-1000000002), it_now_worn)))
set_option maxHeartbeats 4000000 in
set_option maxRecDepth 100000 in
theorem ctX7_wear (l : Launch) (D : va_G) (cI cZ cB cS : ClassId) (kK kV : Nat → Nat) (sz : Nat) (qt qt_text qt_reader qt_images qt_kept qt_buyers qt_tries qt_trial qt_row qt_plan qt_now qt_now_tube qt_now_goods qt_now_stick qt_now_kicks qt_now_kickCount qt_now_low qt_now_high qt_now_price qt_now_wired : Nat) (it_faultAt : Int32) (it_now_lost : Int32) (it_now_stamps : Int32) (it_now_sales : Int32) (it_now_damp : Int32) (it_now_worn : Int32) (it_now_seed : Int32) (x1 : Int32) (N : Nat) (r0 : Int32) (w_it_now_worn : Int32) (h : fX7_wear N it_now_worn x1 = some (r0, w_it_now_worn)) : CtI l yX7_wear wsX7_wear { frames := 0, cells := 0, slots := 0, locals := 0 } D (TY cI cZ cB cS) kK kV [.ref qt, .int x1] [(qt, .inr (7, [.ref qt_text, .ref qt_reader, .ref qt_images, .ref qt_kept, .ref qt_buyers, .ref qt_tries, .ref qt_trial, .ref qt_row, .ref qt_plan, .ref qt_now, .int it_faultAt])), (qt_now, .inr (4, [.ref qt_now_tube, .ref qt_now_goods, .ref qt_now_stick, .ref qt_now_kicks, .ref qt_now_kickCount, .ref qt_now_low, .ref qt_now_high, .ref qt_now_price, .ref qt_now_wired, .int it_now_lost, .int it_now_stamps, .int it_now_sales, .int it_now_damp, .int it_now_worn, .int it_now_seed]))] [(qt, .inr (7, [.ref qt_text, .ref qt_reader, .ref qt_images, .ref qt_kept, .ref qt_buyers, .ref qt_tries, .ref qt_trial, .ref qt_row, .ref qt_plan, .ref qt_now, .int it_faultAt])), (qt_now, .inr (4, [.ref qt_now_tube, .ref qt_now_goods, .ref qt_now_stick, .ref qt_now_kicks, .ref qt_now_kickCount, .ref qt_now_low, .ref qt_now_high, .ref qt_now_price, .ref qt_now_wired, .int it_now_lost, .int it_now_stamps, .int it_now_sales, .int it_now_damp, .int w_it_now_worn, .int it_now_seed]))] sz r0 := by
  refine mkI (cc := cX7_wear) (maxL := 3) (rt := .int) (own := RX7) (by decide) rfl rfl (Nat.le_of_ble_eq_true rfl) ?_
  intro p e s m args below meth c A Z ls hx hb hml hown hts hK hN hX hP hD hA hS hret hl
  have hl : lv_has ls 3 [(0, .ref qt), (1, .int x1)] := hl
  have cn75 : (Cond.constant RX7 75 (-1000000002)).before args s = true := hts _ (List.mem_of_getElem? (l := wsX7_wear) (i := 1) rfl)
  have fl68 : (Cond.fieldLink RX7 68 "SoupWall" "now" "LSoupWall$State;").before args s = true := hts _ (List.mem_of_getElem? (l := wsX7_wear) (i := 2) rfl)
  have hiX7 : ∀ w ∈ wsX70, w ∈ wsX7_wear := fun w h => List.mem_cons_of_mem _ (List.mem_append_left _ (List.mem_append_right _ h))
  have fl126 : (Cond.fieldLinkNest "SoupWall" 126 "SoupWall$State" "worn" "I" "SoupWall").before args s = true := hN.f 34 rfl
  have hiX4 : ∀ w ∈ wsX40, w ∈ wsX7_wear := fun w h => List.mem_cons_of_mem _ (List.mem_append_right _ h)
  unfold fX7_wear at h
  refine lv_iload_n hx hb dX7_wear_0 rfl (lv_at hl 1 rfl) ?_
  refine lv_if_lt (tgt := 10) hx hb dX7_wear_1 (by decide) (fun c1 => ?_) (fun c1 => ?_)
  · replace h := if_t c1 h
    refine lv_ldc (v := (-1000000002)) hx hb hown cn75 dX7_wear_10 ?_
    simp only [Option.some.injEq, Prod.mk.injEq] at h
    obtain ⟨rfl, rfl⟩ := h
    exact hret _ _ _ _ hP hS rfl dX7_wear_12
  · replace h := if_f c1 h
    refine lv_iload_n hx hb dX7_wear_4 rfl (lv_at hl 1 rfl) ?_
    refine lv_bipush (v := 9) hx hb dX7_wear_5 (by decide) ?_
    refine lv_icmp_le (tgt := 13) hx hb dX7_wear_7 (by decide) (fun c2 => ?_) (fun c2 => ?_)
    · replace h := if_t c2 h
      refine lv_aload_n hx hb dX7_wear_13 rfl (lv_at hl 0 rfl) ?_
      refine va_get (ci := 7) (v := .ref qt_now) (C := RX7) (T := TX7) (N := 11) hx hb hts hiX7 hown hK hP 0 rfl rfl 9 (by decide) fl68 (fun _ h9 => h9) rfl dX7_wear_14 ?_
      refine va_getN (ci := 4) (v := .int it_now_worn) (C := RX4) (T := TX4) (N := 15) hx hb hts hiX4 hown hK hP 1 rfl rfl 13 (by decide) fl126 (fun _ h9 => h9) rfl dX7_wear_17 ?_
      refine lv_istore_n (lv' := [(2, .int it_now_worn), (0, .ref qt), (1, .int x1)]) hx hb dX7_wear_20 rfl hl (by decide) rfl (fun ls hl => ?_)
      refine lv_aload_n hx hb dX7_wear_21 rfl (lv_at hl 1 rfl) ?_
      refine va_get (ci := 7) (v := .ref qt_now) (C := RX7) (T := TX7) (N := 11) hx hb hts hiX7 hown hK hP 0 rfl rfl 9 (by decide) fl68 (fun _ h9 => h9) rfl dX7_wear_22 ?_
      refine lv_iload_n hx hb dX7_wear_25 rfl (lv_at hl 2 rfl) ?_
      refine va_putN (ci := 4) (v := .int x1) (ty := .int) (C := RX4) (T := TX4) (N := 15) hx hb hts hiX4 tyX4 tyX4_ok nmX4 hown hK hP (dF hD rfl) hS 1 rfl rfl 13 (by decide) fl126 (fun _ h9 => h9) rfl (by decide +kernel) rfl rfl (Nat.le_of_ble_eq_true rfl) dX7_wear_26 (fun H locs hP _ hS => ?_)
      replace hP : va_P D vwCl [(qt, .inr (7, [.ref qt_text, .ref qt_reader, .ref qt_images, .ref qt_kept, .ref qt_buyers, .ref qt_tries, .ref qt_trial, .ref qt_row, .ref qt_plan, .ref qt_now, .int it_faultAt])), (qt_now, .inr (4, [.ref qt_now_tube, .ref qt_now_goods, .ref qt_now_stick, .ref qt_now_kicks, .ref qt_now_kickCount, .ref qt_now_low, .ref qt_now_high, .ref qt_now_price, .ref qt_now_wired, .int it_now_lost, .int it_now_stamps, .int it_now_sales, .int it_now_damp, .int x1, .int it_now_seed]))] H := hP
      refine lv_iload_n hx hb dX7_wear_29 rfl (lv_at hl 0 rfl) ?_
      simp only [Option.some.injEq, Prod.mk.injEq] at h
      obtain ⟨rfl, rfl⟩ := h
      exact hret _ _ _ _ hP hS rfl dX7_wear_30
    · replace h := if_f c2 h
      refine lv_ldc (v := (-1000000002)) hx hb hown cn75 dX7_wear_10 ?_
      simp only [Option.some.injEq, Prod.mk.injEq] at h
      obtain ⟨rfl, rfl⟩ := h
      exact hret _ _ _ _ hP hS rfl dX7_wear_12
theorem hdX7_wear : yX7_wear.cls = RX7 ∧ yX7_wear.cls ≠ "java/lang/invoke/MethodHandle" ∧ yX7_wear.cls ≠ "java/lang/invoke/VarHandle" ∧ (parseMethodDescriptor yX7_wear.desc).map (fun d => d.parameters.length) = some 1 := by decide +kernel

noncomputable def fX7_replaced (N : Nat) (fs0 : Nat → Int32) (x1 : Int32) (x2 : Int32) (x3 : Int32) (x4 : Int32) : Option (Int32 × (Nat → Int32)) := (if x2 < x3 then some ((-1000000002), fs0) else (if x4 < x2 then some ((-1000000002), fs0) else (if x1 < 0 then some ((-1000000002), fs0) else (if x1 < 5 then ck x1 5 (lt (fs0 (Int32.toNatClampNeg x1)) fun n6 => some (n6, upd fs0 (Int32.toNatClampNeg x1) x2)) else some ((-1000000002), fs0)))))
set_option maxHeartbeats 4000000 in
set_option maxRecDepth 100000 in
theorem ctX7_replaced (l : Launch) (D : va_G) (cI cZ cB cS : ClassId) (kK kV : Nat → Nat) (sz : Nat) (qs0 : Nat) (fs0 : Nat → Int32) (x1 : Int32) (x2 : Int32) (x3 : Int32) (x4 : Int32) (N : Nat) (r0 : Int32) (w_fs0 : Nat → Int32) (h : fX7_replaced N fs0 x1 x2 x3 x4 = some (r0, w_fs0)) : CtI l yX7_replaced wsX7_replaced { frames := 0, cells := 0, slots := 0, locals := 0 } D (TY cI cZ cB cS) kK kV [.ref qs0, .int x1, .int x2, .int x3, .int x4] [(qs0, .inl (cI, 5, .inl fs0))] [(qs0, .inl (cI, 5, .inl w_fs0))] sz r0 := by
  refine mkI (cc := cX7_replaced) (maxL := 6) (rt := .int) (own := RX7) (by decide) rfl rfl (Nat.le_of_ble_eq_true rfl) ?_
  intro p e s m args below meth c A Z ls hx hb hml hown hts hK hN hX hP hD hA hS hret hl
  have hl : lv_has ls 6 [(0, .ref qs0), (1, .int x1), (2, .int x2), (3, .int x3), (4, .int x4)] := hl
  have cn75 : (Cond.constant RX7 75 (-1000000002)).before args s = true := hts _ (List.mem_of_getElem? (l := wsX7_replaced) (i := 1) rfl)
  unfold fX7_replaced at h
  refine lv_iload_n hx hb dX7_replaced_0 rfl (lv_at hl 2 rfl) ?_
  refine lv_iload_n hx hb dX7_replaced_1 rfl (lv_at hl 3 rfl) ?_
  refine lv_icmp_lt (tgt := 21) hx hb dX7_replaced_2 (by decide) (fun c1 => ?_) (fun c1 => ?_)
  · replace h := if_t c1 h
    refine lv_ldc (v := (-1000000002)) hx hb hown cn75 dX7_replaced_21 ?_
    simp only [Option.some.injEq, Prod.mk.injEq] at h
    obtain ⟨rfl, rfl⟩ := h
    exact hret _ _ _ _ hP hS rfl dX7_replaced_23
  · replace h := if_f c1 h
    refine lv_iload_n hx hb dX7_replaced_5 rfl (lv_at hl 2 rfl) ?_
    refine lv_iload hx hb dX7_replaced_6 (lv_at hl 4 rfl) ?_
    refine lv_icmp_gt (tgt := 21) hx hb dX7_replaced_8 (by decide) (fun c2 => ?_) (fun c2 => ?_)
    · replace h := if_t c2 h
      refine lv_ldc (v := (-1000000002)) hx hb hown cn75 dX7_replaced_21 ?_
      simp only [Option.some.injEq, Prod.mk.injEq] at h
      obtain ⟨rfl, rfl⟩ := h
      exact hret _ _ _ _ hP hS rfl dX7_replaced_23
    · replace h := if_f c2 h
      refine lv_iload_n hx hb dX7_replaced_11 rfl (lv_at hl 1 rfl) ?_
      refine lv_if_lt (tgt := 21) hx hb dX7_replaced_12 (by decide) (fun c3 => ?_) (fun c3 => ?_)
      · replace h := if_t c3 h
        refine lv_ldc (v := (-1000000002)) hx hb hown cn75 dX7_replaced_21 ?_
        simp only [Option.some.injEq, Prod.mk.injEq] at h
        obtain ⟨rfl, rfl⟩ := h
        exact hret _ _ _ _ hP hS rfl dX7_replaced_23
      · replace h := if_f c3 h
        refine lv_iload_n hx hb dX7_replaced_15 rfl (lv_at hl 1 rfl) ?_
        refine lv_aload_n hx hb dX7_replaced_16 rfl (lv_at hl 0 rfl) ?_
        refine va_alen (v := 5) hx hb hK hP 0 0 rfl rfl rfl dX7_replaced_17 ?_
        refine lv_icmp_lt (tgt := 24) hx hb dX7_replaced_18 (by decide) (fun c4 => ?_) (fun c4 => ?_)
        · replace h := if_t c4 h
          refine lv_aload_n hx hb dX7_replaced_24 rfl (lv_at hl 0 rfl) ?_
          refine lv_iload_n hx hb dX7_replaced_25 rfl (lv_at hl 1 rfl) ?_
          replace h := ck_el h
          obtain ⟨hi5, h⟩ := h
          refine va_iald hx hb hK hP 0 0 rfl rfl hi5 dX7_replaced_26 ?_
          refine lv_topi (fun n6 en6 => ?_)
          replace h := lt_at en6 h
          refine lv_istore (lv' := [(5, .int n6), (0, .ref qs0), (1, .int x1), (2, .int x2), (3, .int x3), (4, .int x4)]) hx hb dX7_replaced_27 hl (by decide) rfl (fun ls hl => ?_)
          refine lv_aload_n hx hb dX7_replaced_29 rfl (lv_at hl 1 rfl) ?_
          refine lv_iload_n hx hb dX7_replaced_30 rfl (lv_at hl 2 rfl) ?_
          refine lv_iload_n hx hb dX7_replaced_31 rfl (lv_at hl 3 rfl) ?_
          refine va_iast hx hb hK hP (dF hD rfl) hS 0 0 rfl rfl hi5 dX7_replaced_32 (fun H locs hP _ hS => ?_)
          replace hP : va_P D vwCl [(qs0, .inl (cI, 5, .inl (upd fs0 (Int32.toNatClampNeg x1) x2)))] H := hP
          refine lv_iload hx hb dX7_replaced_33 (lv_at hl 0 rfl) ?_
          simp only [Option.some.injEq, Prod.mk.injEq] at h
          obtain ⟨rfl, rfl⟩ := h
          exact hret _ _ _ _ hP hS rfl dX7_replaced_35
        · replace h := if_f c4 h
          refine lv_ldc (v := (-1000000002)) hx hb hown cn75 dX7_replaced_21 ?_
          simp only [Option.some.injEq, Prod.mk.injEq] at h
          obtain ⟨rfl, rfl⟩ := h
          exact hret _ _ _ _ hP hS rfl dX7_replaced_23
theorem hdX7_replaced : yX7_replaced.cls ≠ "java/lang/invoke/MethodHandle" ∧ yX7_replaced.cls ≠ "java/lang/invoke/VarHandle" ∧ (parseMethodDescriptor yX7_replaced.desc).map (fun d => d.parameters.length) = some 5 := by decide +kernel

noncomputable def fX7_stock (N : Nat) (it_plan_columns : Int32) (ft_now_goods : Nat → Int32) (x1 : Int32) (x2 : Int32) : Option (Int32 × (Nat → Int32)) := bd (fX1_isColumn N it_plan_columns x1) fun r1 => (if r1 = 0 then some ((-1000000001), ft_now_goods) else bd (fX7_replaced N ft_now_goods x1 x2 0 60) fun (r4, g5) => some (r4, g5))
set_option maxHeartbeats 4000000 in
set_option maxRecDepth 100000 in
theorem ctX7_stock (l : Launch) (D : va_G) (cI cZ cB cS : ClassId) (kK kV : Nat → Nat) (sz : Nat) (qt qt_text qt_reader qt_images qt_kept qt_buyers qt_tries qt_trial qt_row qt_plan qt_now qt_plan_value qt_plan_weight qt_plan_slugWeight qt_plan_rhythm qt_plan_rhythmLength qt_plan_paidBy qt_now_tube qt_now_goods qt_now_stick qt_now_kicks qt_now_kickCount qt_now_low qt_now_high qt_now_price qt_now_wired : Nat) (it_faultAt : Int32) (it_plan_kinds : Int32) (it_plan_columns : Int32) (it_plan_slugs : Int32) (it_now_lost : Int32) (it_now_stamps : Int32) (it_now_sales : Int32) (it_now_damp : Int32) (it_now_worn : Int32) (it_now_seed : Int32) (ft_now_goods : Nat → Int32) (x1 : Int32) (x2 : Int32) (N : Nat) (r0 : Int32) (w_ft_now_goods : Nat → Int32) (h : fX7_stock N it_plan_columns ft_now_goods x1 x2 = some (r0, w_ft_now_goods)) : CtI l yX7_stock wsX7_stock { frames := 1, cells := 0, slots := 0, locals := 25 } D (TY cI cZ cB cS) kK kV [.ref qt, .int x1, .int x2] [(qt, .inr (7, [.ref qt_text, .ref qt_reader, .ref qt_images, .ref qt_kept, .ref qt_buyers, .ref qt_tries, .ref qt_trial, .ref qt_row, .ref qt_plan, .ref qt_now, .int it_faultAt])), (qt_plan, .inr (1, [.ref qt_plan_value, .ref qt_plan_weight, .ref qt_plan_slugWeight, .ref qt_plan_rhythm, .ref qt_plan_rhythmLength, .ref qt_plan_paidBy, .int it_plan_kinds, .int it_plan_columns, .int it_plan_slugs])), (qt_now, .inr (4, [.ref qt_now_tube, .ref qt_now_goods, .ref qt_now_stick, .ref qt_now_kicks, .ref qt_now_kickCount, .ref qt_now_low, .ref qt_now_high, .ref qt_now_price, .ref qt_now_wired, .int it_now_lost, .int it_now_stamps, .int it_now_sales, .int it_now_damp, .int it_now_worn, .int it_now_seed])), (qt_now_goods, .inl (cI, 5, .inl ft_now_goods))] [(qt, .inr (7, [.ref qt_text, .ref qt_reader, .ref qt_images, .ref qt_kept, .ref qt_buyers, .ref qt_tries, .ref qt_trial, .ref qt_row, .ref qt_plan, .ref qt_now, .int it_faultAt])), (qt_plan, .inr (1, [.ref qt_plan_value, .ref qt_plan_weight, .ref qt_plan_slugWeight, .ref qt_plan_rhythm, .ref qt_plan_rhythmLength, .ref qt_plan_paidBy, .int it_plan_kinds, .int it_plan_columns, .int it_plan_slugs])), (qt_now, .inr (4, [.ref qt_now_tube, .ref qt_now_goods, .ref qt_now_stick, .ref qt_now_kicks, .ref qt_now_kickCount, .ref qt_now_low, .ref qt_now_high, .ref qt_now_price, .ref qt_now_wired, .int it_now_lost, .int it_now_stamps, .int it_now_sales, .int it_now_damp, .int it_now_worn, .int it_now_seed])), (qt_now_goods, .inl (cI, 5, .inl w_ft_now_goods))] sz r0 := by
  refine mkI (cc := cX7_stock) (maxL := 3) (rt := .int) (own := RX7) (by decide) rfl rfl (Nat.le_of_ble_eq_true rfl) ?_
  intro p e s m args below meth c A Z ls hx hb hml hown hts hK hN hX hP hD hA hS hret hl
  have hl : lv_has ls 3 [(0, .ref qt), (1, .int x1), (2, .int x2)] := hl
  have fl64 : (Cond.fieldLink RX7 64 "SoupWall" "plan" "LSoupWall$Plan;").before args s = true := hts _ (List.mem_of_getElem? (l := wsX7_stock) (i := 1) rfl)
  have hiX7 : ∀ w ∈ wsX70, w ∈ wsX7_stock := fun w h => List.mem_cons_of_mem _ (List.mem_append_left _ (List.mem_append_left _ (List.mem_append_right _ h)))
  have cn137 : (Cond.constant RX7 137 (-1000000001)).before args s = true := hts _ (List.mem_of_getElem? (l := wsX7_stock) (i := 3) rfl)
  have fl68 : (Cond.fieldLink RX7 68 "SoupWall" "now" "LSoupWall$State;").before args s = true := hts _ (List.mem_of_getElem? (l := wsX7_stock) (i := 2) rfl)
  have fl167 : (Cond.fieldLinkNest "SoupWall" 167 "SoupWall$State" "goods" "[I" "SoupWall").before args s = true := hN.f 13 rfl
  have hiX4 : ∀ w ∈ wsX40, w ∈ wsX7_stock := fun w h => List.mem_cons_of_mem _ (List.mem_append_left _ (List.mem_append_right _ h))
  unfold fX7_stock at h
  refine lv_aload_n hx hb dX7_stock_0 rfl (lv_at hl 0 rfl) ?_
  refine va_get (ci := 7) (v := .ref qt_plan) (C := RX7) (T := TX7) (N := 11) hx hb hts hiX7 hown hK hP 0 rfl rfl 8 (by decide) fl64 (fun _ h9 => h9) rfl dX7_stock_1 ?_
  refine lv_iload_n hx hb dX7_stock_4 rfl (lv_at hl 1 rfl) ?_
  replace h := bd_el h
  obtain ⟨r1, hc2, h⟩ := h
  refine callVI (rest := []) ⟨hx, hb, hml, hown, hts⟩ (ctX1_isColumn l D cI cZ cB cS kK kV _ qt_plan qt_plan_value qt_plan_weight qt_plan_slugWeight qt_plan_rhythm qt_plan_rhythmLength qt_plan_paidBy it_plan_kinds it_plan_columns it_plan_slugs x1 N r1 hc2) (cwV 1 hts gX7_stock_X1_isColumn rfl rfl rfl hdX1_isColumn ⟨Nat.le_of_ble_eq_true rfl, Nat.le_of_ble_eq_true rfl⟩) hK hN hX hP (dF hD rfl) hS hA [1] (mcC rfl mcN) (by decide +kernel) [(qt, .inr (7, [.ref qt_text, .ref qt_reader, .ref qt_images, .ref qt_kept, .ref qt_buyers, .ref qt_tries, .ref qt_trial, .ref qt_row, .ref qt_plan, .ref qt_now, .int it_faultAt])), (qt_plan, .inr (1, [.ref qt_plan_value, .ref qt_plan_weight, .ref qt_plan_slugWeight, .ref qt_plan_rhythm, .ref qt_plan_rhythmLength, .ref qt_plan_paidBy, .int it_plan_kinds, .int it_plan_columns, .int it_plan_slugs])), (qt_now, .inr (4, [.ref qt_now_tube, .ref qt_now_goods, .ref qt_now_stick, .ref qt_now_kicks, .ref qt_now_kickCount, .ref qt_now_low, .ref qt_now_high, .ref qt_now_price, .ref qt_now_wired, .int it_now_lost, .int it_now_stamps, .int it_now_sales, .int it_now_damp, .int it_now_worn, .int it_now_seed])), (qt_now_goods, .inl (cI, 5, .inl ft_now_goods))] [0, 2, 3] (mcC rfl mcN) ((mcC rfl (mcC rfl (mcC rfl mcN))).trans (mcC rfl (mcC rfl (mcC rfl mcN))).symm) 4 rfl (by decide +kernel) (va_recv hK hP (ci := 1) (q0 := 1) rfl rfl) rfl hl.1 rfl (Nat.le_of_ble_eq_true rfl) ⟨Nat.zero_le _, Nat.zero_le _⟩ dX7_stock_5 (fun H locs hP hS => ?_)
  refine lv_if_eq (tgt := 29) hx hb dX7_stock_8 (by decide) (fun c3 => ?_) (fun c3 => ?_)
  · replace h := if_t c3 h
    refine lv_ldc (v := (-1000000001)) hx hb hown cn137 dX7_stock_29 ?_
    simp only [Option.some.injEq, Prod.mk.injEq] at h
    obtain ⟨rfl, rfl⟩ := h
    exact hret _ _ _ _ hP hS rfl dX7_stock_31
  · replace h := if_f c3 h
    refine lv_aload_n hx hb dX7_stock_11 rfl (lv_at hl 0 rfl) ?_
    refine va_get (ci := 7) (v := .ref qt_now) (C := RX7) (T := TX7) (N := 11) hx hb hts hiX7 hown hK hP 0 rfl rfl 9 (by decide) fl68 (fun _ h9 => h9) rfl dX7_stock_12 ?_
    refine va_getN (ci := 4) (v := .ref qt_now_goods) (C := RX4) (T := TX4) (N := 15) hx hb hts hiX4 hown hK hP 2 rfl rfl 1 (by decide) fl167 (fun _ h9 => h9) rfl dX7_stock_15 ?_
    refine lv_iload_n hx hb dX7_stock_18 rfl (lv_at hl 1 rfl) ?_
    refine lv_iload_n hx hb dX7_stock_19 rfl (lv_at hl 2 rfl) ?_
    refine lv_iconst (v := 0) hx hb dX7_stock_20 (by decide) ?_
    refine lv_bipush (v := 60) hx hb dX7_stock_21 (by decide) ?_
    replace h := bd_el h
    obtain ⟨⟨r4, g5⟩, hc6, h⟩ := h
    refine callSI (rest := []) ⟨hx, hb, hml, hown, hts⟩ (ctX7_replaced l D cI cZ cB cS kK kV _ qt_now_goods ft_now_goods x1 x2 0 60 N r4 g5 hc6) (va_cwS 5 hts gX7_stock_X7_replaced rfl rfl rfl hdX7_replaced ⟨Nat.le_of_ble_eq_true rfl, Nat.le_of_ble_eq_true rfl⟩) hK hN hX hP (dF hD rfl) hS hA [3] (mcC rfl mcN) (by decide +kernel) [(qt, .inr (7, [.ref qt_text, .ref qt_reader, .ref qt_images, .ref qt_kept, .ref qt_buyers, .ref qt_tries, .ref qt_trial, .ref qt_row, .ref qt_plan, .ref qt_now, .int it_faultAt])), (qt_plan, .inr (1, [.ref qt_plan_value, .ref qt_plan_weight, .ref qt_plan_slugWeight, .ref qt_plan_rhythm, .ref qt_plan_rhythmLength, .ref qt_plan_paidBy, .int it_plan_kinds, .int it_plan_columns, .int it_plan_slugs])), (qt_now, .inr (4, [.ref qt_now_tube, .ref qt_now_goods, .ref qt_now_stick, .ref qt_now_kicks, .ref qt_now_kickCount, .ref qt_now_low, .ref qt_now_high, .ref qt_now_price, .ref qt_now_wired, .int it_now_lost, .int it_now_stamps, .int it_now_sales, .int it_now_damp, .int it_now_worn, .int it_now_seed])), (qt_now_goods, .inl (cI, 5, .inl g5))] [0, 1, 2] (mcC rfl mcN) ((mcC rfl (mcC rfl (mcC rfl mcN))).trans (mcC rfl (mcC rfl (mcC rfl mcN))).symm) 4 rfl (by decide +kernel) rfl hl.1 rfl (Nat.le_of_ble_eq_true rfl) ⟨Nat.zero_le _, Nat.zero_le _⟩ dX7_stock_23 (fun H locs hP hS => ?_)
    refine lv_goto (tgt := 31) hx hb dX7_stock_26 (by decide) ?_
    simp only [Option.some.injEq, Prod.mk.injEq] at h
    obtain ⟨rfl, rfl⟩ := h
    exact hret _ _ _ _ hP hS rfl dX7_stock_31
theorem hdX7_stock : yX7_stock.cls = RX7 ∧ yX7_stock.cls ≠ "java/lang/invoke/MethodHandle" ∧ yX7_stock.cls ≠ "java/lang/invoke/VarHandle" ∧ (parseMethodDescriptor yX7_stock.desc).map (fun d => d.parameters.length) = some 2 := by decide +kernel

noncomputable def fX7_tube (N : Nat) (it_plan_kinds : Int32) (ft_now_tube : Nat → Int32) (x1 : Int32) (x2 : Int32) : Option (Int32 × (Nat → Int32)) := bd (fX1_isKind N it_plan_kinds x1) fun r1 => (if r1 = 0 then some ((-1000000001), ft_now_tube) else bd (fX7_replaced N ft_now_tube x1 x2 0 60) fun (r4, g5) => some (r4, g5))
set_option maxHeartbeats 4000000 in
set_option maxRecDepth 100000 in
theorem ctX7_tube (l : Launch) (D : va_G) (cI cZ cB cS : ClassId) (kK kV : Nat → Nat) (sz : Nat) (qt qt_text qt_reader qt_images qt_kept qt_buyers qt_tries qt_trial qt_row qt_plan qt_now qt_plan_value qt_plan_weight qt_plan_slugWeight qt_plan_rhythm qt_plan_rhythmLength qt_plan_paidBy qt_now_tube qt_now_goods qt_now_stick qt_now_kicks qt_now_kickCount qt_now_low qt_now_high qt_now_price qt_now_wired : Nat) (it_faultAt : Int32) (it_plan_kinds : Int32) (it_plan_columns : Int32) (it_plan_slugs : Int32) (it_now_lost : Int32) (it_now_stamps : Int32) (it_now_sales : Int32) (it_now_damp : Int32) (it_now_worn : Int32) (it_now_seed : Int32) (ft_now_tube : Nat → Int32) (x1 : Int32) (x2 : Int32) (N : Nat) (r0 : Int32) (w_ft_now_tube : Nat → Int32) (h : fX7_tube N it_plan_kinds ft_now_tube x1 x2 = some (r0, w_ft_now_tube)) : CtI l yX7_tube wsX7_tube { frames := 1, cells := 0, slots := 0, locals := 25 } D (TY cI cZ cB cS) kK kV [.ref qt, .int x1, .int x2] [(qt, .inr (7, [.ref qt_text, .ref qt_reader, .ref qt_images, .ref qt_kept, .ref qt_buyers, .ref qt_tries, .ref qt_trial, .ref qt_row, .ref qt_plan, .ref qt_now, .int it_faultAt])), (qt_plan, .inr (1, [.ref qt_plan_value, .ref qt_plan_weight, .ref qt_plan_slugWeight, .ref qt_plan_rhythm, .ref qt_plan_rhythmLength, .ref qt_plan_paidBy, .int it_plan_kinds, .int it_plan_columns, .int it_plan_slugs])), (qt_now, .inr (4, [.ref qt_now_tube, .ref qt_now_goods, .ref qt_now_stick, .ref qt_now_kicks, .ref qt_now_kickCount, .ref qt_now_low, .ref qt_now_high, .ref qt_now_price, .ref qt_now_wired, .int it_now_lost, .int it_now_stamps, .int it_now_sales, .int it_now_damp, .int it_now_worn, .int it_now_seed])), (qt_now_tube, .inl (cI, 5, .inl ft_now_tube))] [(qt, .inr (7, [.ref qt_text, .ref qt_reader, .ref qt_images, .ref qt_kept, .ref qt_buyers, .ref qt_tries, .ref qt_trial, .ref qt_row, .ref qt_plan, .ref qt_now, .int it_faultAt])), (qt_plan, .inr (1, [.ref qt_plan_value, .ref qt_plan_weight, .ref qt_plan_slugWeight, .ref qt_plan_rhythm, .ref qt_plan_rhythmLength, .ref qt_plan_paidBy, .int it_plan_kinds, .int it_plan_columns, .int it_plan_slugs])), (qt_now, .inr (4, [.ref qt_now_tube, .ref qt_now_goods, .ref qt_now_stick, .ref qt_now_kicks, .ref qt_now_kickCount, .ref qt_now_low, .ref qt_now_high, .ref qt_now_price, .ref qt_now_wired, .int it_now_lost, .int it_now_stamps, .int it_now_sales, .int it_now_damp, .int it_now_worn, .int it_now_seed])), (qt_now_tube, .inl (cI, 5, .inl w_ft_now_tube))] sz r0 := by
  refine mkI (cc := cX7_tube) (maxL := 3) (rt := .int) (own := RX7) (by decide) rfl rfl (Nat.le_of_ble_eq_true rfl) ?_
  intro p e s m args below meth c A Z ls hx hb hml hown hts hK hN hX hP hD hA hS hret hl
  have hl : lv_has ls 3 [(0, .ref qt), (1, .int x1), (2, .int x2)] := hl
  have fl64 : (Cond.fieldLink RX7 64 "SoupWall" "plan" "LSoupWall$Plan;").before args s = true := hts _ (List.mem_of_getElem? (l := wsX7_tube) (i := 1) rfl)
  have hiX7 : ∀ w ∈ wsX70, w ∈ wsX7_tube := fun w h => List.mem_cons_of_mem _ (List.mem_append_left _ (List.mem_append_left _ (List.mem_append_right _ h)))
  have cn137 : (Cond.constant RX7 137 (-1000000001)).before args s = true := hts _ (List.mem_of_getElem? (l := wsX7_tube) (i := 3) rfl)
  have fl68 : (Cond.fieldLink RX7 68 "SoupWall" "now" "LSoupWall$State;").before args s = true := hts _ (List.mem_of_getElem? (l := wsX7_tube) (i := 2) rfl)
  have fl149 : (Cond.fieldLinkNest "SoupWall" 149 "SoupWall$State" "tube" "[I" "SoupWall").before args s = true := hN.f 11 rfl
  have hiX4 : ∀ w ∈ wsX40, w ∈ wsX7_tube := fun w h => List.mem_cons_of_mem _ (List.mem_append_left _ (List.mem_append_right _ h))
  unfold fX7_tube at h
  refine lv_aload_n hx hb dX7_tube_0 rfl (lv_at hl 0 rfl) ?_
  refine va_get (ci := 7) (v := .ref qt_plan) (C := RX7) (T := TX7) (N := 11) hx hb hts hiX7 hown hK hP 0 rfl rfl 8 (by decide) fl64 (fun _ h9 => h9) rfl dX7_tube_1 ?_
  refine lv_iload_n hx hb dX7_tube_4 rfl (lv_at hl 1 rfl) ?_
  replace h := bd_el h
  obtain ⟨r1, hc2, h⟩ := h
  refine callVI (rest := []) ⟨hx, hb, hml, hown, hts⟩ (ctX1_isKind l D cI cZ cB cS kK kV _ qt_plan qt_plan_value qt_plan_weight qt_plan_slugWeight qt_plan_rhythm qt_plan_rhythmLength qt_plan_paidBy it_plan_kinds it_plan_columns it_plan_slugs x1 N r1 hc2) (cwV 1 hts gX7_tube_X1_isKind rfl rfl rfl hdX1_isKind ⟨Nat.le_of_ble_eq_true rfl, Nat.le_of_ble_eq_true rfl⟩) hK hN hX hP (dF hD rfl) hS hA [1] (mcC rfl mcN) (by decide +kernel) [(qt, .inr (7, [.ref qt_text, .ref qt_reader, .ref qt_images, .ref qt_kept, .ref qt_buyers, .ref qt_tries, .ref qt_trial, .ref qt_row, .ref qt_plan, .ref qt_now, .int it_faultAt])), (qt_plan, .inr (1, [.ref qt_plan_value, .ref qt_plan_weight, .ref qt_plan_slugWeight, .ref qt_plan_rhythm, .ref qt_plan_rhythmLength, .ref qt_plan_paidBy, .int it_plan_kinds, .int it_plan_columns, .int it_plan_slugs])), (qt_now, .inr (4, [.ref qt_now_tube, .ref qt_now_goods, .ref qt_now_stick, .ref qt_now_kicks, .ref qt_now_kickCount, .ref qt_now_low, .ref qt_now_high, .ref qt_now_price, .ref qt_now_wired, .int it_now_lost, .int it_now_stamps, .int it_now_sales, .int it_now_damp, .int it_now_worn, .int it_now_seed])), (qt_now_tube, .inl (cI, 5, .inl ft_now_tube))] [0, 2, 3] (mcC rfl mcN) ((mcC rfl (mcC rfl (mcC rfl mcN))).trans (mcC rfl (mcC rfl (mcC rfl mcN))).symm) 4 rfl (by decide +kernel) (va_recv hK hP (ci := 1) (q0 := 1) rfl rfl) rfl hl.1 rfl (Nat.le_of_ble_eq_true rfl) ⟨Nat.zero_le _, Nat.zero_le _⟩ dX7_tube_5 (fun H locs hP hS => ?_)
  refine lv_if_eq (tgt := 29) hx hb dX7_tube_8 (by decide) (fun c3 => ?_) (fun c3 => ?_)
  · replace h := if_t c3 h
    refine lv_ldc (v := (-1000000001)) hx hb hown cn137 dX7_tube_29 ?_
    simp only [Option.some.injEq, Prod.mk.injEq] at h
    obtain ⟨rfl, rfl⟩ := h
    exact hret _ _ _ _ hP hS rfl dX7_tube_31
  · replace h := if_f c3 h
    refine lv_aload_n hx hb dX7_tube_11 rfl (lv_at hl 0 rfl) ?_
    refine va_get (ci := 7) (v := .ref qt_now) (C := RX7) (T := TX7) (N := 11) hx hb hts hiX7 hown hK hP 0 rfl rfl 9 (by decide) fl68 (fun _ h9 => h9) rfl dX7_tube_12 ?_
    refine va_getN (ci := 4) (v := .ref qt_now_tube) (C := RX4) (T := TX4) (N := 15) hx hb hts hiX4 hown hK hP 2 rfl rfl 0 (by decide) fl149 (fun _ h9 => h9) rfl dX7_tube_15 ?_
    refine lv_iload_n hx hb dX7_tube_18 rfl (lv_at hl 1 rfl) ?_
    refine lv_iload_n hx hb dX7_tube_19 rfl (lv_at hl 2 rfl) ?_
    refine lv_iconst (v := 0) hx hb dX7_tube_20 (by decide) ?_
    refine lv_bipush (v := 60) hx hb dX7_tube_21 (by decide) ?_
    replace h := bd_el h
    obtain ⟨⟨r4, g5⟩, hc6, h⟩ := h
    refine callSI (rest := []) ⟨hx, hb, hml, hown, hts⟩ (ctX7_replaced l D cI cZ cB cS kK kV _ qt_now_tube ft_now_tube x1 x2 0 60 N r4 g5 hc6) (va_cwS 5 hts gX7_tube_X7_replaced rfl rfl rfl hdX7_replaced ⟨Nat.le_of_ble_eq_true rfl, Nat.le_of_ble_eq_true rfl⟩) hK hN hX hP (dF hD rfl) hS hA [3] (mcC rfl mcN) (by decide +kernel) [(qt, .inr (7, [.ref qt_text, .ref qt_reader, .ref qt_images, .ref qt_kept, .ref qt_buyers, .ref qt_tries, .ref qt_trial, .ref qt_row, .ref qt_plan, .ref qt_now, .int it_faultAt])), (qt_plan, .inr (1, [.ref qt_plan_value, .ref qt_plan_weight, .ref qt_plan_slugWeight, .ref qt_plan_rhythm, .ref qt_plan_rhythmLength, .ref qt_plan_paidBy, .int it_plan_kinds, .int it_plan_columns, .int it_plan_slugs])), (qt_now, .inr (4, [.ref qt_now_tube, .ref qt_now_goods, .ref qt_now_stick, .ref qt_now_kicks, .ref qt_now_kickCount, .ref qt_now_low, .ref qt_now_high, .ref qt_now_price, .ref qt_now_wired, .int it_now_lost, .int it_now_stamps, .int it_now_sales, .int it_now_damp, .int it_now_worn, .int it_now_seed])), (qt_now_tube, .inl (cI, 5, .inl g5))] [0, 1, 2] (mcC rfl mcN) ((mcC rfl (mcC rfl (mcC rfl mcN))).trans (mcC rfl (mcC rfl (mcC rfl mcN))).symm) 4 rfl (by decide +kernel) rfl hl.1 rfl (Nat.le_of_ble_eq_true rfl) ⟨Nat.zero_le _, Nat.zero_le _⟩ dX7_tube_23 (fun H locs hP hS => ?_)
    refine lv_goto (tgt := 31) hx hb dX7_tube_26 (by decide) ?_
    simp only [Option.some.injEq, Prod.mk.injEq] at h
    obtain ⟨rfl, rfl⟩ := h
    exact hret _ _ _ _ hP hS rfl dX7_tube_31
theorem hdX7_tube : yX7_tube.cls = RX7 ∧ yX7_tube.cls ≠ "java/lang/invoke/MethodHandle" ∧ yX7_tube.cls ≠ "java/lang/invoke/VarHandle" ∧ (parseMethodDescriptor yX7_tube.desc).map (fun d => d.parameters.length) = some 2 := by decide +kernel

noncomputable def fX7_price (N : Nat) (it_plan_columns : Int32) (ft_now_price : Nat → Int32) (x1 : Int32) (x2 : Int32) : Option (Int32 × (Nat → Int32)) := bd (fX1_isColumn N it_plan_columns x1) fun r1 => (if r1 = 0 then some ((-1000000001), ft_now_price) else bd (fX7_replaced N ft_now_price x1 x2 1 99) fun (r4, g5) => some (r4, g5))
set_option maxHeartbeats 4000000 in
set_option maxRecDepth 100000 in
theorem ctX7_price (l : Launch) (D : va_G) (cI cZ cB cS : ClassId) (kK kV : Nat → Nat) (sz : Nat) (qt qt_text qt_reader qt_images qt_kept qt_buyers qt_tries qt_trial qt_row qt_plan qt_now qt_plan_value qt_plan_weight qt_plan_slugWeight qt_plan_rhythm qt_plan_rhythmLength qt_plan_paidBy qt_now_tube qt_now_goods qt_now_stick qt_now_kicks qt_now_kickCount qt_now_low qt_now_high qt_now_price qt_now_wired : Nat) (it_faultAt : Int32) (it_plan_kinds : Int32) (it_plan_columns : Int32) (it_plan_slugs : Int32) (it_now_lost : Int32) (it_now_stamps : Int32) (it_now_sales : Int32) (it_now_damp : Int32) (it_now_worn : Int32) (it_now_seed : Int32) (ft_now_price : Nat → Int32) (x1 : Int32) (x2 : Int32) (N : Nat) (r0 : Int32) (w_ft_now_price : Nat → Int32) (h : fX7_price N it_plan_columns ft_now_price x1 x2 = some (r0, w_ft_now_price)) : CtI l yX7_price wsX7_price { frames := 1, cells := 0, slots := 0, locals := 25 } D (TY cI cZ cB cS) kK kV [.ref qt, .int x1, .int x2] [(qt, .inr (7, [.ref qt_text, .ref qt_reader, .ref qt_images, .ref qt_kept, .ref qt_buyers, .ref qt_tries, .ref qt_trial, .ref qt_row, .ref qt_plan, .ref qt_now, .int it_faultAt])), (qt_plan, .inr (1, [.ref qt_plan_value, .ref qt_plan_weight, .ref qt_plan_slugWeight, .ref qt_plan_rhythm, .ref qt_plan_rhythmLength, .ref qt_plan_paidBy, .int it_plan_kinds, .int it_plan_columns, .int it_plan_slugs])), (qt_now, .inr (4, [.ref qt_now_tube, .ref qt_now_goods, .ref qt_now_stick, .ref qt_now_kicks, .ref qt_now_kickCount, .ref qt_now_low, .ref qt_now_high, .ref qt_now_price, .ref qt_now_wired, .int it_now_lost, .int it_now_stamps, .int it_now_sales, .int it_now_damp, .int it_now_worn, .int it_now_seed])), (qt_now_price, .inl (cI, 5, .inl ft_now_price))] [(qt, .inr (7, [.ref qt_text, .ref qt_reader, .ref qt_images, .ref qt_kept, .ref qt_buyers, .ref qt_tries, .ref qt_trial, .ref qt_row, .ref qt_plan, .ref qt_now, .int it_faultAt])), (qt_plan, .inr (1, [.ref qt_plan_value, .ref qt_plan_weight, .ref qt_plan_slugWeight, .ref qt_plan_rhythm, .ref qt_plan_rhythmLength, .ref qt_plan_paidBy, .int it_plan_kinds, .int it_plan_columns, .int it_plan_slugs])), (qt_now, .inr (4, [.ref qt_now_tube, .ref qt_now_goods, .ref qt_now_stick, .ref qt_now_kicks, .ref qt_now_kickCount, .ref qt_now_low, .ref qt_now_high, .ref qt_now_price, .ref qt_now_wired, .int it_now_lost, .int it_now_stamps, .int it_now_sales, .int it_now_damp, .int it_now_worn, .int it_now_seed])), (qt_now_price, .inl (cI, 5, .inl w_ft_now_price))] sz r0 := by
  refine mkI (cc := cX7_price) (maxL := 3) (rt := .int) (own := RX7) (by decide) rfl rfl (Nat.le_of_ble_eq_true rfl) ?_
  intro p e s m args below meth c A Z ls hx hb hml hown hts hK hN hX hP hD hA hS hret hl
  have hl : lv_has ls 3 [(0, .ref qt), (1, .int x1), (2, .int x2)] := hl
  have fl64 : (Cond.fieldLink RX7 64 "SoupWall" "plan" "LSoupWall$Plan;").before args s = true := hts _ (List.mem_of_getElem? (l := wsX7_price) (i := 1) rfl)
  have hiX7 : ∀ w ∈ wsX70, w ∈ wsX7_price := fun w h => List.mem_cons_of_mem _ (List.mem_append_left _ (List.mem_append_left _ (List.mem_append_right _ h)))
  have cn137 : (Cond.constant RX7 137 (-1000000001)).before args s = true := hts _ (List.mem_of_getElem? (l := wsX7_price) (i := 3) rfl)
  have fl68 : (Cond.fieldLink RX7 68 "SoupWall" "now" "LSoupWall$State;").before args s = true := hts _ (List.mem_of_getElem? (l := wsX7_price) (i := 2) rfl)
  have fl158 : (Cond.fieldLinkNest "SoupWall" 158 "SoupWall$State" "price" "[I" "SoupWall").before args s = true := hN.f 23 rfl
  have hiX4 : ∀ w ∈ wsX40, w ∈ wsX7_price := fun w h => List.mem_cons_of_mem _ (List.mem_append_left _ (List.mem_append_right _ h))
  unfold fX7_price at h
  refine lv_aload_n hx hb dX7_price_0 rfl (lv_at hl 0 rfl) ?_
  refine va_get (ci := 7) (v := .ref qt_plan) (C := RX7) (T := TX7) (N := 11) hx hb hts hiX7 hown hK hP 0 rfl rfl 8 (by decide) fl64 (fun _ h9 => h9) rfl dX7_price_1 ?_
  refine lv_iload_n hx hb dX7_price_4 rfl (lv_at hl 1 rfl) ?_
  replace h := bd_el h
  obtain ⟨r1, hc2, h⟩ := h
  refine callVI (rest := []) ⟨hx, hb, hml, hown, hts⟩ (ctX1_isColumn l D cI cZ cB cS kK kV _ qt_plan qt_plan_value qt_plan_weight qt_plan_slugWeight qt_plan_rhythm qt_plan_rhythmLength qt_plan_paidBy it_plan_kinds it_plan_columns it_plan_slugs x1 N r1 hc2) (cwV 1 hts gX7_price_X1_isColumn rfl rfl rfl hdX1_isColumn ⟨Nat.le_of_ble_eq_true rfl, Nat.le_of_ble_eq_true rfl⟩) hK hN hX hP (dF hD rfl) hS hA [1] (mcC rfl mcN) (by decide +kernel) [(qt, .inr (7, [.ref qt_text, .ref qt_reader, .ref qt_images, .ref qt_kept, .ref qt_buyers, .ref qt_tries, .ref qt_trial, .ref qt_row, .ref qt_plan, .ref qt_now, .int it_faultAt])), (qt_plan, .inr (1, [.ref qt_plan_value, .ref qt_plan_weight, .ref qt_plan_slugWeight, .ref qt_plan_rhythm, .ref qt_plan_rhythmLength, .ref qt_plan_paidBy, .int it_plan_kinds, .int it_plan_columns, .int it_plan_slugs])), (qt_now, .inr (4, [.ref qt_now_tube, .ref qt_now_goods, .ref qt_now_stick, .ref qt_now_kicks, .ref qt_now_kickCount, .ref qt_now_low, .ref qt_now_high, .ref qt_now_price, .ref qt_now_wired, .int it_now_lost, .int it_now_stamps, .int it_now_sales, .int it_now_damp, .int it_now_worn, .int it_now_seed])), (qt_now_price, .inl (cI, 5, .inl ft_now_price))] [0, 2, 3] (mcC rfl mcN) ((mcC rfl (mcC rfl (mcC rfl mcN))).trans (mcC rfl (mcC rfl (mcC rfl mcN))).symm) 4 rfl (by decide +kernel) (va_recv hK hP (ci := 1) (q0 := 1) rfl rfl) rfl hl.1 rfl (Nat.le_of_ble_eq_true rfl) ⟨Nat.zero_le _, Nat.zero_le _⟩ dX7_price_5 (fun H locs hP hS => ?_)
  refine lv_if_eq (tgt := 29) hx hb dX7_price_8 (by decide) (fun c3 => ?_) (fun c3 => ?_)
  · replace h := if_t c3 h
    refine lv_ldc (v := (-1000000001)) hx hb hown cn137 dX7_price_29 ?_
    simp only [Option.some.injEq, Prod.mk.injEq] at h
    obtain ⟨rfl, rfl⟩ := h
    exact hret _ _ _ _ hP hS rfl dX7_price_31
  · replace h := if_f c3 h
    refine lv_aload_n hx hb dX7_price_11 rfl (lv_at hl 0 rfl) ?_
    refine va_get (ci := 7) (v := .ref qt_now) (C := RX7) (T := TX7) (N := 11) hx hb hts hiX7 hown hK hP 0 rfl rfl 9 (by decide) fl68 (fun _ h9 => h9) rfl dX7_price_12 ?_
    refine va_getN (ci := 4) (v := .ref qt_now_price) (C := RX4) (T := TX4) (N := 15) hx hb hts hiX4 hown hK hP 2 rfl rfl 7 (by decide) fl158 (fun _ h9 => h9) rfl dX7_price_15 ?_
    refine lv_iload_n hx hb dX7_price_18 rfl (lv_at hl 1 rfl) ?_
    refine lv_iload_n hx hb dX7_price_19 rfl (lv_at hl 2 rfl) ?_
    refine lv_iconst (v := 1) hx hb dX7_price_20 (by decide) ?_
    refine lv_bipush (v := 99) hx hb dX7_price_21 (by decide) ?_
    replace h := bd_el h
    obtain ⟨⟨r4, g5⟩, hc6, h⟩ := h
    refine callSI (rest := []) ⟨hx, hb, hml, hown, hts⟩ (ctX7_replaced l D cI cZ cB cS kK kV _ qt_now_price ft_now_price x1 x2 1 99 N r4 g5 hc6) (va_cwS 5 hts gX7_price_X7_replaced rfl rfl rfl hdX7_replaced ⟨Nat.le_of_ble_eq_true rfl, Nat.le_of_ble_eq_true rfl⟩) hK hN hX hP (dF hD rfl) hS hA [3] (mcC rfl mcN) (by decide +kernel) [(qt, .inr (7, [.ref qt_text, .ref qt_reader, .ref qt_images, .ref qt_kept, .ref qt_buyers, .ref qt_tries, .ref qt_trial, .ref qt_row, .ref qt_plan, .ref qt_now, .int it_faultAt])), (qt_plan, .inr (1, [.ref qt_plan_value, .ref qt_plan_weight, .ref qt_plan_slugWeight, .ref qt_plan_rhythm, .ref qt_plan_rhythmLength, .ref qt_plan_paidBy, .int it_plan_kinds, .int it_plan_columns, .int it_plan_slugs])), (qt_now, .inr (4, [.ref qt_now_tube, .ref qt_now_goods, .ref qt_now_stick, .ref qt_now_kicks, .ref qt_now_kickCount, .ref qt_now_low, .ref qt_now_high, .ref qt_now_price, .ref qt_now_wired, .int it_now_lost, .int it_now_stamps, .int it_now_sales, .int it_now_damp, .int it_now_worn, .int it_now_seed])), (qt_now_price, .inl (cI, 5, .inl g5))] [0, 1, 2] (mcC rfl mcN) ((mcC rfl (mcC rfl (mcC rfl mcN))).trans (mcC rfl (mcC rfl (mcC rfl mcN))).symm) 4 rfl (by decide +kernel) rfl hl.1 rfl (Nat.le_of_ble_eq_true rfl) ⟨Nat.zero_le _, Nat.zero_le _⟩ dX7_price_23 (fun H locs hP hS => ?_)
    refine lv_goto (tgt := 31) hx hb dX7_price_26 (by decide) ?_
    simp only [Option.some.injEq, Prod.mk.injEq] at h
    obtain ⟨rfl, rfl⟩ := h
    exact hret _ _ _ _ hP hS rfl dX7_price_31
theorem hdX7_price : yX7_price.cls = RX7 ∧ yX7_price.cls ≠ "java/lang/invoke/MethodHandle" ∧ yX7_price.cls ≠ "java/lang/invoke/VarHandle" ∧ (parseMethodDescriptor yX7_price.desc).map (fun d => d.parameters.length) = some 2 := by decide +kernel

noncomputable def fX7_span (N : Nat) (it_plan_columns : Int32) (ft_now_low : Nat → Int32) (ft_now_high : Nat → Int32) (x1 : Int32) (x2 : Int32) (x3 : Int32) : Option (Int32 × (Nat → Int32) × (Nat → Int32)) := bd (fX1_isColumn N it_plan_columns x1) fun r1 => (if r1 = 0 then some ((-1000000001), ft_now_low, ft_now_high) else (if x2 < 1 then some ((-1000000002), ft_now_low, ft_now_high) else (if 99 < x3 then some ((-1000000002), ft_now_low, ft_now_high) else (if x2 ≤ x3 then ck x1 5 (lt ((100 * (ft_now_low (Int32.toNatClampNeg x1))) + (ft_now_high (Int32.toNatClampNeg x1))) fun n8 => some (n8, upd ft_now_low (Int32.toNatClampNeg x1) x2, upd ft_now_high (Int32.toNatClampNeg x1) x3)) else some ((-1000000002), ft_now_low, ft_now_high)))))
set_option maxHeartbeats 4000000 in
set_option maxRecDepth 100000 in
theorem ctX7_span (l : Launch) (D : va_G) (cI cZ cB cS : ClassId) (kK kV : Nat → Nat) (sz : Nat) (qt qt_text qt_reader qt_images qt_kept qt_buyers qt_tries qt_trial qt_row qt_plan qt_now qt_plan_value qt_plan_weight qt_plan_slugWeight qt_plan_rhythm qt_plan_rhythmLength qt_plan_paidBy qt_now_tube qt_now_goods qt_now_stick qt_now_kicks qt_now_kickCount qt_now_low qt_now_high qt_now_price qt_now_wired : Nat) (it_faultAt : Int32) (it_plan_kinds : Int32) (it_plan_columns : Int32) (it_plan_slugs : Int32) (it_now_lost : Int32) (it_now_stamps : Int32) (it_now_sales : Int32) (it_now_damp : Int32) (it_now_worn : Int32) (it_now_seed : Int32) (ft_now_low : Nat → Int32) (ft_now_high : Nat → Int32) (x1 : Int32) (x2 : Int32) (x3 : Int32) (N : Nat) (r0 : Int32) (w_ft_now_low : Nat → Int32) (w_ft_now_high : Nat → Int32) (h : fX7_span N it_plan_columns ft_now_low ft_now_high x1 x2 x3 = some (r0, w_ft_now_low, w_ft_now_high)) : CtI l yX7_span wsX7_span { frames := 1, cells := 0, slots := 0, locals := 21 } D (TY cI cZ cB cS) kK kV [.ref qt, .int x1, .int x2, .int x3] [(qt, .inr (7, [.ref qt_text, .ref qt_reader, .ref qt_images, .ref qt_kept, .ref qt_buyers, .ref qt_tries, .ref qt_trial, .ref qt_row, .ref qt_plan, .ref qt_now, .int it_faultAt])), (qt_plan, .inr (1, [.ref qt_plan_value, .ref qt_plan_weight, .ref qt_plan_slugWeight, .ref qt_plan_rhythm, .ref qt_plan_rhythmLength, .ref qt_plan_paidBy, .int it_plan_kinds, .int it_plan_columns, .int it_plan_slugs])), (qt_now, .inr (4, [.ref qt_now_tube, .ref qt_now_goods, .ref qt_now_stick, .ref qt_now_kicks, .ref qt_now_kickCount, .ref qt_now_low, .ref qt_now_high, .ref qt_now_price, .ref qt_now_wired, .int it_now_lost, .int it_now_stamps, .int it_now_sales, .int it_now_damp, .int it_now_worn, .int it_now_seed])), (qt_now_low, .inl (cI, 5, .inl ft_now_low)), (qt_now_high, .inl (cI, 5, .inl ft_now_high))] [(qt, .inr (7, [.ref qt_text, .ref qt_reader, .ref qt_images, .ref qt_kept, .ref qt_buyers, .ref qt_tries, .ref qt_trial, .ref qt_row, .ref qt_plan, .ref qt_now, .int it_faultAt])), (qt_plan, .inr (1, [.ref qt_plan_value, .ref qt_plan_weight, .ref qt_plan_slugWeight, .ref qt_plan_rhythm, .ref qt_plan_rhythmLength, .ref qt_plan_paidBy, .int it_plan_kinds, .int it_plan_columns, .int it_plan_slugs])), (qt_now, .inr (4, [.ref qt_now_tube, .ref qt_now_goods, .ref qt_now_stick, .ref qt_now_kicks, .ref qt_now_kickCount, .ref qt_now_low, .ref qt_now_high, .ref qt_now_price, .ref qt_now_wired, .int it_now_lost, .int it_now_stamps, .int it_now_sales, .int it_now_damp, .int it_now_worn, .int it_now_seed])), (qt_now_low, .inl (cI, 5, .inl w_ft_now_low)), (qt_now_high, .inl (cI, 5, .inl w_ft_now_high))] sz r0 := by
  refine mkI (cc := cX7_span) (maxL := 5) (rt := .int) (own := RX7) (by decide) rfl rfl (Nat.le_of_ble_eq_true rfl) ?_
  intro p e s m args below meth c A Z ls hx hb hml hown hts hK hN hX hP hD hA hS hret hl
  have hl : lv_has ls 5 [(0, .ref qt), (1, .int x1), (2, .int x2), (3, .int x3)] := hl
  have fl64 : (Cond.fieldLink RX7 64 "SoupWall" "plan" "LSoupWall$Plan;").before args s = true := hts _ (List.mem_of_getElem? (l := wsX7_span) (i := 1) rfl)
  have hiX7 : ∀ w ∈ wsX70, w ∈ wsX7_span := fun w h => List.mem_cons_of_mem _ (List.mem_append_left _ (List.mem_append_left _ (List.mem_append_right _ h)))
  have cn75 : (Cond.constant RX7 75 (-1000000002)).before args s = true := hts _ (List.mem_of_getElem? (l := wsX7_span) (i := 3) rfl)
  have fl68 : (Cond.fieldLink RX7 68 "SoupWall" "now" "LSoupWall$State;").before args s = true := hts _ (List.mem_of_getElem? (l := wsX7_span) (i := 4) rfl)
  have fl161 : (Cond.fieldLinkNest "SoupWall" 161 "SoupWall$State" "low" "[I" "SoupWall").before args s = true := hN.f 19 rfl
  have hiX4 : ∀ w ∈ wsX40, w ∈ wsX7_span := fun w h => List.mem_cons_of_mem _ (List.mem_append_left _ (List.mem_append_right _ h))
  have fl164 : (Cond.fieldLinkNest "SoupWall" 164 "SoupWall$State" "high" "[I" "SoupWall").before args s = true := hN.f 21 rfl
  have cn137 : (Cond.constant RX7 137 (-1000000001)).before args s = true := hts _ (List.mem_of_getElem? (l := wsX7_span) (i := 2) rfl)
  unfold fX7_span at h
  refine lv_aload_n hx hb dX7_span_0 rfl (lv_at hl 0 rfl) ?_
  refine va_get (ci := 7) (v := .ref qt_plan) (C := RX7) (T := TX7) (N := 11) hx hb hts hiX7 hown hK hP 0 rfl rfl 8 (by decide) fl64 (fun _ h9 => h9) rfl dX7_span_1 ?_
  refine lv_iload_n hx hb dX7_span_4 rfl (lv_at hl 1 rfl) ?_
  replace h := bd_el h
  obtain ⟨r1, hc2, h⟩ := h
  refine callVI (rest := []) ⟨hx, hb, hml, hown, hts⟩ (ctX1_isColumn l D cI cZ cB cS kK kV _ qt_plan qt_plan_value qt_plan_weight qt_plan_slugWeight qt_plan_rhythm qt_plan_rhythmLength qt_plan_paidBy it_plan_kinds it_plan_columns it_plan_slugs x1 N r1 hc2) (cwV 1 hts gX7_span_X1_isColumn rfl rfl rfl hdX1_isColumn ⟨Nat.le_of_ble_eq_true rfl, Nat.le_of_ble_eq_true rfl⟩) hK hN hX hP (dF hD rfl) hS hA [1] (mcC rfl mcN) (by decide +kernel) [(qt, .inr (7, [.ref qt_text, .ref qt_reader, .ref qt_images, .ref qt_kept, .ref qt_buyers, .ref qt_tries, .ref qt_trial, .ref qt_row, .ref qt_plan, .ref qt_now, .int it_faultAt])), (qt_plan, .inr (1, [.ref qt_plan_value, .ref qt_plan_weight, .ref qt_plan_slugWeight, .ref qt_plan_rhythm, .ref qt_plan_rhythmLength, .ref qt_plan_paidBy, .int it_plan_kinds, .int it_plan_columns, .int it_plan_slugs])), (qt_now, .inr (4, [.ref qt_now_tube, .ref qt_now_goods, .ref qt_now_stick, .ref qt_now_kicks, .ref qt_now_kickCount, .ref qt_now_low, .ref qt_now_high, .ref qt_now_price, .ref qt_now_wired, .int it_now_lost, .int it_now_stamps, .int it_now_sales, .int it_now_damp, .int it_now_worn, .int it_now_seed])), (qt_now_low, .inl (cI, 5, .inl ft_now_low)), (qt_now_high, .inl (cI, 5, .inl ft_now_high))] [0, 2, 3, 4] (mcC rfl mcN) ((mcC rfl (mcC rfl (mcC rfl (mcC rfl mcN)))).trans (mcC rfl (mcC rfl (mcC rfl (mcC rfl mcN)))).symm) 5 rfl (by decide +kernel) (va_recv hK hP (ci := 1) (q0 := 1) rfl rfl) rfl hl.1 rfl (Nat.le_of_ble_eq_true rfl) ⟨Nat.zero_le _, Nat.zero_le _⟩ dX7_span_5 (fun H locs hP hS => ?_)
  refine lv_if_ne (tgt := 14) hx hb dX7_span_8 (by decide) (fun c3 => ?_) (fun c3 => ?_)
  · replace h := if_f c3 h
    refine lv_iload_n hx hb dX7_span_14 rfl (lv_at hl 2 rfl) ?_
    refine lv_iconst (v := 1) hx hb dX7_span_15 (by decide) ?_
    refine lv_icmp_lt (tgt := 30) hx hb dX7_span_16 (by decide) (fun c4 => ?_) (fun c4 => ?_)
    · replace h := if_t c4 h
      refine lv_ldc (v := (-1000000002)) hx hb hown cn75 dX7_span_30 ?_
      simp only [Option.some.injEq, Prod.mk.injEq] at h
      obtain ⟨rfl, rfl, rfl⟩ := h
      exact hret _ _ _ _ hP hS rfl dX7_span_32
    · replace h := if_f c4 h
      refine lv_iload_n hx hb dX7_span_19 rfl (lv_at hl 3 rfl) ?_
      refine lv_bipush (v := 99) hx hb dX7_span_20 (by decide) ?_
      refine lv_icmp_gt (tgt := 30) hx hb dX7_span_22 (by decide) (fun c5 => ?_) (fun c5 => ?_)
      · replace h := if_t c5 h
        refine lv_ldc (v := (-1000000002)) hx hb hown cn75 dX7_span_30 ?_
        simp only [Option.some.injEq, Prod.mk.injEq] at h
        obtain ⟨rfl, rfl, rfl⟩ := h
        exact hret _ _ _ _ hP hS rfl dX7_span_32
      · replace h := if_f c5 h
        refine lv_iload_n hx hb dX7_span_25 rfl (lv_at hl 3 rfl) ?_
        refine lv_iload_n hx hb dX7_span_26 rfl (lv_at hl 2 rfl) ?_
        refine lv_icmp_ge (tgt := 33) hx hb dX7_span_27 (by decide) (fun c6 => ?_) (fun c6 => ?_)
        · replace h := if_t c6 h
          refine lv_bipush (v := 100) hx hb dX7_span_33 (by decide) ?_
          refine lv_aload_n hx hb dX7_span_35 rfl (lv_at hl 0 rfl) ?_
          refine va_get (ci := 7) (v := .ref qt_now) (C := RX7) (T := TX7) (N := 11) hx hb hts hiX7 hown hK hP 0 rfl rfl 9 (by decide) fl68 (fun _ h9 => h9) rfl dX7_span_36 ?_
          refine va_getN (ci := 4) (v := .ref qt_now_low) (C := RX4) (T := TX4) (N := 15) hx hb hts hiX4 hown hK hP 2 rfl rfl 5 (by decide) fl161 (fun _ h9 => h9) rfl dX7_span_39 ?_
          refine lv_iload_n hx hb dX7_span_42 rfl (lv_at hl 1 rfl) ?_
          replace h := ck_el h
          obtain ⟨hi7, h⟩ := h
          refine va_iald hx hb hK hP 3 0 rfl rfl hi7 dX7_span_43 ?_
          refine lv_imul hx hb dX7_span_44 ?_
          refine lv_aload_n hx hb dX7_span_45 rfl (lv_at hl 0 rfl) ?_
          refine va_get (ci := 7) (v := .ref qt_now) (C := RX7) (T := TX7) (N := 11) hx hb hts hiX7 hown hK hP 0 rfl rfl 9 (by decide) fl68 (fun _ h9 => h9) rfl dX7_span_46 ?_
          refine va_getN (ci := 4) (v := .ref qt_now_high) (C := RX4) (T := TX4) (N := 15) hx hb hts hiX4 hown hK hP 2 rfl rfl 6 (by decide) fl164 (fun _ h9 => h9) rfl dX7_span_49 ?_
          refine lv_iload_n hx hb dX7_span_52 rfl (lv_at hl 1 rfl) ?_
          refine va_iald hx hb hK hP 4 0 rfl rfl hi7 dX7_span_53 ?_
          refine lv_iadd hx hb dX7_span_54 ?_
          refine lv_topi (fun n8 en8 => ?_)
          replace h := lt_at en8 h
          refine lv_istore (lv' := [(4, .int n8), (0, .ref qt), (1, .int x1), (2, .int x2), (3, .int x3)]) hx hb dX7_span_55 hl (by decide) rfl (fun ls hl => ?_)
          refine lv_aload_n hx hb dX7_span_57 rfl (lv_at hl 1 rfl) ?_
          refine va_get (ci := 7) (v := .ref qt_now) (C := RX7) (T := TX7) (N := 11) hx hb hts hiX7 hown hK hP 0 rfl rfl 9 (by decide) fl68 (fun _ h9 => h9) rfl dX7_span_58 ?_
          refine va_getN (ci := 4) (v := .ref qt_now_low) (C := RX4) (T := TX4) (N := 15) hx hb hts hiX4 hown hK hP 2 rfl rfl 5 (by decide) fl161 (fun _ h9 => h9) rfl dX7_span_61 ?_
          refine lv_iload_n hx hb dX7_span_64 rfl (lv_at hl 2 rfl) ?_
          refine lv_iload_n hx hb dX7_span_65 rfl (lv_at hl 3 rfl) ?_
          refine va_iast hx hb hK hP (dF hD rfl) hS 3 0 rfl rfl hi7 dX7_span_66 (fun H locs hP _ hS => ?_)
          replace hP : va_P D vwCl [(qt, .inr (7, [.ref qt_text, .ref qt_reader, .ref qt_images, .ref qt_kept, .ref qt_buyers, .ref qt_tries, .ref qt_trial, .ref qt_row, .ref qt_plan, .ref qt_now, .int it_faultAt])), (qt_plan, .inr (1, [.ref qt_plan_value, .ref qt_plan_weight, .ref qt_plan_slugWeight, .ref qt_plan_rhythm, .ref qt_plan_rhythmLength, .ref qt_plan_paidBy, .int it_plan_kinds, .int it_plan_columns, .int it_plan_slugs])), (qt_now, .inr (4, [.ref qt_now_tube, .ref qt_now_goods, .ref qt_now_stick, .ref qt_now_kicks, .ref qt_now_kickCount, .ref qt_now_low, .ref qt_now_high, .ref qt_now_price, .ref qt_now_wired, .int it_now_lost, .int it_now_stamps, .int it_now_sales, .int it_now_damp, .int it_now_worn, .int it_now_seed])), (qt_now_low, .inl (cI, 5, .inl (upd ft_now_low (Int32.toNatClampNeg x1) x2))), (qt_now_high, .inl (cI, 5, .inl ft_now_high))] H := hP
          refine lv_aload_n hx hb dX7_span_67 rfl (lv_at hl 1 rfl) ?_
          refine va_get (ci := 7) (v := .ref qt_now) (C := RX7) (T := TX7) (N := 11) hx hb hts hiX7 hown hK hP 0 rfl rfl 9 (by decide) fl68 (fun _ h9 => h9) rfl dX7_span_68 ?_
          refine va_getN (ci := 4) (v := .ref qt_now_high) (C := RX4) (T := TX4) (N := 15) hx hb hts hiX4 hown hK hP 2 rfl rfl 6 (by decide) fl164 (fun _ h9 => h9) rfl dX7_span_71 ?_
          refine lv_iload_n hx hb dX7_span_74 rfl (lv_at hl 2 rfl) ?_
          refine lv_iload_n hx hb dX7_span_75 rfl (lv_at hl 4 rfl) ?_
          refine va_iast hx hb hK hP (dF hD rfl) hS 4 0 rfl rfl hi7 dX7_span_76 (fun H locs hP _ hS => ?_)
          replace hP : va_P D vwCl [(qt, .inr (7, [.ref qt_text, .ref qt_reader, .ref qt_images, .ref qt_kept, .ref qt_buyers, .ref qt_tries, .ref qt_trial, .ref qt_row, .ref qt_plan, .ref qt_now, .int it_faultAt])), (qt_plan, .inr (1, [.ref qt_plan_value, .ref qt_plan_weight, .ref qt_plan_slugWeight, .ref qt_plan_rhythm, .ref qt_plan_rhythmLength, .ref qt_plan_paidBy, .int it_plan_kinds, .int it_plan_columns, .int it_plan_slugs])), (qt_now, .inr (4, [.ref qt_now_tube, .ref qt_now_goods, .ref qt_now_stick, .ref qt_now_kicks, .ref qt_now_kickCount, .ref qt_now_low, .ref qt_now_high, .ref qt_now_price, .ref qt_now_wired, .int it_now_lost, .int it_now_stamps, .int it_now_sales, .int it_now_damp, .int it_now_worn, .int it_now_seed])), (qt_now_low, .inl (cI, 5, .inl (upd ft_now_low (Int32.toNatClampNeg x1) x2))), (qt_now_high, .inl (cI, 5, .inl (upd ft_now_high (Int32.toNatClampNeg x1) x3)))] H := hP
          refine lv_iload hx hb dX7_span_77 (lv_at hl 0 rfl) ?_
          simp only [Option.some.injEq, Prod.mk.injEq] at h
          obtain ⟨rfl, rfl, rfl⟩ := h
          exact hret _ _ _ _ hP hS rfl dX7_span_79
        · replace h := if_f c6 h
          refine lv_ldc (v := (-1000000002)) hx hb hown cn75 dX7_span_30 ?_
          simp only [Option.some.injEq, Prod.mk.injEq] at h
          obtain ⟨rfl, rfl, rfl⟩ := h
          exact hret _ _ _ _ hP hS rfl dX7_span_32
  · replace h := if_t c3 h
    refine lv_ldc (v := (-1000000001)) hx hb hown cn137 dX7_span_11 ?_
    simp only [Option.some.injEq, Prod.mk.injEq] at h
    obtain ⟨rfl, rfl, rfl⟩ := h
    exact hret _ _ _ _ hP hS rfl dX7_span_13
theorem hdX7_span : yX7_span.cls = RX7 ∧ yX7_span.cls ≠ "java/lang/invoke/MethodHandle" ∧ yX7_span.cls ≠ "java/lang/invoke/VarHandle" ∧ (parseMethodDescriptor yX7_span.desc).map (fun d => d.parameters.length) = some 3 := by decide +kernel

noncomputable def fX7_wire (N : Nat) (it_plan_columns : Int32) (ft_now_wired : Nat → Int32) (x1 : Int32) (x2 : Int32) : Option (Int32 × (Nat → Int32)) := bd (fX1_isColumn N it_plan_columns x1) fun r1 => (if r1 = 0 then some ((-1000000001), ft_now_wired) else bd (fX1_isColumn N it_plan_columns x2) fun r4 => (if r4 = 0 then some ((-1000000001), ft_now_wired) else ck x1 5 (lt (ft_now_wired (Int32.toNatClampNeg x1)) fun n8 => some (n8, upd ft_now_wired (Int32.toNatClampNeg x1) x2))))
set_option maxHeartbeats 4000000 in
set_option maxRecDepth 100000 in
theorem ctX7_wire (l : Launch) (D : va_G) (cI cZ cB cS : ClassId) (kK kV : Nat → Nat) (sz : Nat) (qt qt_text qt_reader qt_images qt_kept qt_buyers qt_tries qt_trial qt_row qt_plan qt_now qt_plan_value qt_plan_weight qt_plan_slugWeight qt_plan_rhythm qt_plan_rhythmLength qt_plan_paidBy qt_now_tube qt_now_goods qt_now_stick qt_now_kicks qt_now_kickCount qt_now_low qt_now_high qt_now_price qt_now_wired : Nat) (it_faultAt : Int32) (it_plan_kinds : Int32) (it_plan_columns : Int32) (it_plan_slugs : Int32) (it_now_lost : Int32) (it_now_stamps : Int32) (it_now_sales : Int32) (it_now_damp : Int32) (it_now_worn : Int32) (it_now_seed : Int32) (ft_now_wired : Nat → Int32) (x1 : Int32) (x2 : Int32) (N : Nat) (r0 : Int32) (w_ft_now_wired : Nat → Int32) (h : fX7_wire N it_plan_columns ft_now_wired x1 x2 = some (r0, w_ft_now_wired)) : CtI l yX7_wire wsX7_wire { frames := 1, cells := 0, slots := 0, locals := 21 } D (TY cI cZ cB cS) kK kV [.ref qt, .int x1, .int x2] [(qt, .inr (7, [.ref qt_text, .ref qt_reader, .ref qt_images, .ref qt_kept, .ref qt_buyers, .ref qt_tries, .ref qt_trial, .ref qt_row, .ref qt_plan, .ref qt_now, .int it_faultAt])), (qt_plan, .inr (1, [.ref qt_plan_value, .ref qt_plan_weight, .ref qt_plan_slugWeight, .ref qt_plan_rhythm, .ref qt_plan_rhythmLength, .ref qt_plan_paidBy, .int it_plan_kinds, .int it_plan_columns, .int it_plan_slugs])), (qt_now, .inr (4, [.ref qt_now_tube, .ref qt_now_goods, .ref qt_now_stick, .ref qt_now_kicks, .ref qt_now_kickCount, .ref qt_now_low, .ref qt_now_high, .ref qt_now_price, .ref qt_now_wired, .int it_now_lost, .int it_now_stamps, .int it_now_sales, .int it_now_damp, .int it_now_worn, .int it_now_seed])), (qt_now_wired, .inl (cI, 5, .inl ft_now_wired))] [(qt, .inr (7, [.ref qt_text, .ref qt_reader, .ref qt_images, .ref qt_kept, .ref qt_buyers, .ref qt_tries, .ref qt_trial, .ref qt_row, .ref qt_plan, .ref qt_now, .int it_faultAt])), (qt_plan, .inr (1, [.ref qt_plan_value, .ref qt_plan_weight, .ref qt_plan_slugWeight, .ref qt_plan_rhythm, .ref qt_plan_rhythmLength, .ref qt_plan_paidBy, .int it_plan_kinds, .int it_plan_columns, .int it_plan_slugs])), (qt_now, .inr (4, [.ref qt_now_tube, .ref qt_now_goods, .ref qt_now_stick, .ref qt_now_kicks, .ref qt_now_kickCount, .ref qt_now_low, .ref qt_now_high, .ref qt_now_price, .ref qt_now_wired, .int it_now_lost, .int it_now_stamps, .int it_now_sales, .int it_now_damp, .int it_now_worn, .int it_now_seed])), (qt_now_wired, .inl (cI, 5, .inl w_ft_now_wired))] sz r0 := by
  refine mkI (cc := cX7_wire) (maxL := 4) (rt := .int) (own := RX7) (by decide) rfl rfl (Nat.le_of_ble_eq_true rfl) ?_
  intro p e s m args below meth c A Z ls hx hb hml hown hts hK hN hX hP hD hA hS hret hl
  have hl : lv_has ls 4 [(0, .ref qt), (1, .int x1), (2, .int x2)] := hl
  have fl64 : (Cond.fieldLink RX7 64 "SoupWall" "plan" "LSoupWall$Plan;").before args s = true := hts _ (List.mem_of_getElem? (l := wsX7_wire) (i := 1) rfl)
  have hiX7 : ∀ w ∈ wsX70, w ∈ wsX7_wire := fun w h => List.mem_cons_of_mem _ (List.mem_append_left _ (List.mem_append_left _ (List.mem_append_right _ h)))
  have cn137 : (Cond.constant RX7 137 (-1000000001)).before args s = true := hts _ (List.mem_of_getElem? (l := wsX7_wire) (i := 2) rfl)
  have fl68 : (Cond.fieldLink RX7 68 "SoupWall" "now" "LSoupWall$State;").before args s = true := hts _ (List.mem_of_getElem? (l := wsX7_wire) (i := 3) rfl)
  have fl176 : (Cond.fieldLinkNest "SoupWall" 176 "SoupWall$State" "wired" "[I" "SoupWall").before args s = true := hN.f 25 rfl
  have hiX4 : ∀ w ∈ wsX40, w ∈ wsX7_wire := fun w h => List.mem_cons_of_mem _ (List.mem_append_left _ (List.mem_append_right _ h))
  unfold fX7_wire at h
  refine lv_aload_n hx hb dX7_wire_0 rfl (lv_at hl 0 rfl) ?_
  refine va_get (ci := 7) (v := .ref qt_plan) (C := RX7) (T := TX7) (N := 11) hx hb hts hiX7 hown hK hP 0 rfl rfl 8 (by decide) fl64 (fun _ h9 => h9) rfl dX7_wire_1 ?_
  refine lv_iload_n hx hb dX7_wire_4 rfl (lv_at hl 1 rfl) ?_
  replace h := bd_el h
  obtain ⟨r1, hc2, h⟩ := h
  refine callVI (rest := []) ⟨hx, hb, hml, hown, hts⟩ (ctX1_isColumn l D cI cZ cB cS kK kV _ qt_plan qt_plan_value qt_plan_weight qt_plan_slugWeight qt_plan_rhythm qt_plan_rhythmLength qt_plan_paidBy it_plan_kinds it_plan_columns it_plan_slugs x1 N r1 hc2) (cwV 1 hts gX7_wire_X1_isColumn rfl rfl rfl hdX1_isColumn ⟨Nat.le_of_ble_eq_true rfl, Nat.le_of_ble_eq_true rfl⟩) hK hN hX hP (dF hD rfl) hS hA [1] (mcC rfl mcN) (by decide +kernel) [(qt, .inr (7, [.ref qt_text, .ref qt_reader, .ref qt_images, .ref qt_kept, .ref qt_buyers, .ref qt_tries, .ref qt_trial, .ref qt_row, .ref qt_plan, .ref qt_now, .int it_faultAt])), (qt_plan, .inr (1, [.ref qt_plan_value, .ref qt_plan_weight, .ref qt_plan_slugWeight, .ref qt_plan_rhythm, .ref qt_plan_rhythmLength, .ref qt_plan_paidBy, .int it_plan_kinds, .int it_plan_columns, .int it_plan_slugs])), (qt_now, .inr (4, [.ref qt_now_tube, .ref qt_now_goods, .ref qt_now_stick, .ref qt_now_kicks, .ref qt_now_kickCount, .ref qt_now_low, .ref qt_now_high, .ref qt_now_price, .ref qt_now_wired, .int it_now_lost, .int it_now_stamps, .int it_now_sales, .int it_now_damp, .int it_now_worn, .int it_now_seed])), (qt_now_wired, .inl (cI, 5, .inl ft_now_wired))] [0, 2, 3] (mcC rfl mcN) ((mcC rfl (mcC rfl (mcC rfl mcN))).trans (mcC rfl (mcC rfl (mcC rfl mcN))).symm) 4 rfl (by decide +kernel) (va_recv hK hP (ci := 1) (q0 := 1) rfl rfl) rfl hl.1 rfl (Nat.le_of_ble_eq_true rfl) ⟨Nat.zero_le _, Nat.zero_le _⟩ dX7_wire_5 (fun H locs hP hS => ?_)
  refine lv_if_eq (tgt := 22) hx hb dX7_wire_8 (by decide) (fun c3 => ?_) (fun c3 => ?_)
  · replace h := if_t c3 h
    refine lv_ldc (v := (-1000000001)) hx hb hown cn137 dX7_wire_22 ?_
    simp only [Option.some.injEq, Prod.mk.injEq] at h
    obtain ⟨rfl, rfl⟩ := h
    exact hret _ _ _ _ hP hS rfl dX7_wire_24
  · replace h := if_f c3 h
    refine lv_aload_n hx hb dX7_wire_11 rfl (lv_at hl 0 rfl) ?_
    refine va_get (ci := 7) (v := .ref qt_plan) (C := RX7) (T := TX7) (N := 11) hx hb hts hiX7 hown hK hP 0 rfl rfl 8 (by decide) fl64 (fun _ h9 => h9) rfl dX7_wire_12 ?_
    refine lv_iload_n hx hb dX7_wire_15 rfl (lv_at hl 2 rfl) ?_
    replace h := bd_el h
    obtain ⟨r4, hc5, h⟩ := h
    refine callVI (rest := []) ⟨hx, hb, hml, hown, hts⟩ (ctX1_isColumn l D cI cZ cB cS kK kV _ qt_plan qt_plan_value qt_plan_weight qt_plan_slugWeight qt_plan_rhythm qt_plan_rhythmLength qt_plan_paidBy it_plan_kinds it_plan_columns it_plan_slugs x2 N r4 hc5) (cwV 1 hts gX7_wire_X1_isColumn rfl rfl rfl hdX1_isColumn ⟨Nat.le_of_ble_eq_true rfl, Nat.le_of_ble_eq_true rfl⟩) hK hN hX hP (dF hD rfl) hS hA [1] (mcC rfl mcN) (by decide +kernel) [(qt, .inr (7, [.ref qt_text, .ref qt_reader, .ref qt_images, .ref qt_kept, .ref qt_buyers, .ref qt_tries, .ref qt_trial, .ref qt_row, .ref qt_plan, .ref qt_now, .int it_faultAt])), (qt_plan, .inr (1, [.ref qt_plan_value, .ref qt_plan_weight, .ref qt_plan_slugWeight, .ref qt_plan_rhythm, .ref qt_plan_rhythmLength, .ref qt_plan_paidBy, .int it_plan_kinds, .int it_plan_columns, .int it_plan_slugs])), (qt_now, .inr (4, [.ref qt_now_tube, .ref qt_now_goods, .ref qt_now_stick, .ref qt_now_kicks, .ref qt_now_kickCount, .ref qt_now_low, .ref qt_now_high, .ref qt_now_price, .ref qt_now_wired, .int it_now_lost, .int it_now_stamps, .int it_now_sales, .int it_now_damp, .int it_now_worn, .int it_now_seed])), (qt_now_wired, .inl (cI, 5, .inl ft_now_wired))] [0, 2, 3] (mcC rfl mcN) ((mcC rfl (mcC rfl (mcC rfl mcN))).trans (mcC rfl (mcC rfl (mcC rfl mcN))).symm) 4 rfl (by decide +kernel) (va_recv hK hP (ci := 1) (q0 := 1) rfl rfl) rfl hl.1 rfl (Nat.le_of_ble_eq_true rfl) ⟨Nat.zero_le _, Nat.zero_le _⟩ dX7_wire_16 (fun H locs hP hS => ?_)
    refine lv_if_ne (tgt := 25) hx hb dX7_wire_19 (by decide) (fun c6 => ?_) (fun c6 => ?_)
    · replace h := if_f c6 h
      refine lv_aload_n hx hb dX7_wire_25 rfl (lv_at hl 0 rfl) ?_
      refine va_get (ci := 7) (v := .ref qt_now) (C := RX7) (T := TX7) (N := 11) hx hb hts hiX7 hown hK hP 0 rfl rfl 9 (by decide) fl68 (fun _ h9 => h9) rfl dX7_wire_26 ?_
      refine va_getN (ci := 4) (v := .ref qt_now_wired) (C := RX4) (T := TX4) (N := 15) hx hb hts hiX4 hown hK hP 2 rfl rfl 8 (by decide) fl176 (fun _ h9 => h9) rfl dX7_wire_29 ?_
      refine lv_iload_n hx hb dX7_wire_32 rfl (lv_at hl 1 rfl) ?_
      replace h := ck_el h
      obtain ⟨hi7, h⟩ := h
      refine va_iald hx hb hK hP 3 0 rfl rfl hi7 dX7_wire_33 ?_
      refine lv_topi (fun n8 en8 => ?_)
      replace h := lt_at en8 h
      refine lv_istore_n (lv' := [(3, .int n8), (0, .ref qt), (1, .int x1), (2, .int x2)]) hx hb dX7_wire_34 rfl hl (by decide) rfl (fun ls hl => ?_)
      refine lv_aload_n hx hb dX7_wire_35 rfl (lv_at hl 1 rfl) ?_
      refine va_get (ci := 7) (v := .ref qt_now) (C := RX7) (T := TX7) (N := 11) hx hb hts hiX7 hown hK hP 0 rfl rfl 9 (by decide) fl68 (fun _ h9 => h9) rfl dX7_wire_36 ?_
      refine va_getN (ci := 4) (v := .ref qt_now_wired) (C := RX4) (T := TX4) (N := 15) hx hb hts hiX4 hown hK hP 2 rfl rfl 8 (by decide) fl176 (fun _ h9 => h9) rfl dX7_wire_39 ?_
      refine lv_iload_n hx hb dX7_wire_42 rfl (lv_at hl 2 rfl) ?_
      refine lv_iload_n hx hb dX7_wire_43 rfl (lv_at hl 3 rfl) ?_
      refine va_iast hx hb hK hP (dF hD rfl) hS 3 0 rfl rfl hi7 dX7_wire_44 (fun H locs hP _ hS => ?_)
      replace hP : va_P D vwCl [(qt, .inr (7, [.ref qt_text, .ref qt_reader, .ref qt_images, .ref qt_kept, .ref qt_buyers, .ref qt_tries, .ref qt_trial, .ref qt_row, .ref qt_plan, .ref qt_now, .int it_faultAt])), (qt_plan, .inr (1, [.ref qt_plan_value, .ref qt_plan_weight, .ref qt_plan_slugWeight, .ref qt_plan_rhythm, .ref qt_plan_rhythmLength, .ref qt_plan_paidBy, .int it_plan_kinds, .int it_plan_columns, .int it_plan_slugs])), (qt_now, .inr (4, [.ref qt_now_tube, .ref qt_now_goods, .ref qt_now_stick, .ref qt_now_kicks, .ref qt_now_kickCount, .ref qt_now_low, .ref qt_now_high, .ref qt_now_price, .ref qt_now_wired, .int it_now_lost, .int it_now_stamps, .int it_now_sales, .int it_now_damp, .int it_now_worn, .int it_now_seed])), (qt_now_wired, .inl (cI, 5, .inl (upd ft_now_wired (Int32.toNatClampNeg x1) x2)))] H := hP
      refine lv_iload_n hx hb dX7_wire_45 rfl (lv_at hl 0 rfl) ?_
      simp only [Option.some.injEq, Prod.mk.injEq] at h
      obtain ⟨rfl, rfl⟩ := h
      exact hret _ _ _ _ hP hS rfl dX7_wire_46
    · replace h := if_t c6 h
      refine lv_ldc (v := (-1000000001)) hx hb hown cn137 dX7_wire_22 ?_
      simp only [Option.some.injEq, Prod.mk.injEq] at h
      obtain ⟨rfl, rfl⟩ := h
      exact hret _ _ _ _ hP hS rfl dX7_wire_24
theorem hdX7_wire : yX7_wire.cls = RX7 ∧ yX7_wire.cls ≠ "java/lang/invoke/MethodHandle" ∧ yX7_wire.cls ≠ "java/lang/invoke/VarHandle" ∧ (parseMethodDescriptor yX7_wire.desc).map (fun d => d.parameters.length) = some 2 := by decide +kernel

noncomputable def fX7_sellByDraws (N : Nat) (it_plan_kinds : Int32) (it_plan_columns : Int32) (it_now_lost : Int32) (it_now_stamps : Int32) (it_now_sales : Int32) (it_now_damp : Int32) (it_now_worn : Int32) (it_now_seed : Int32) (ft_plan_value : Nat → Int32) (ft_now_price : Nat → Int32) (ft_now_wired : Nat → Int32) (ft_now_stick : Nat → Int32) (ft_plan_weight : Nat → Int32) (ft_now_low : Nat → Int32) (ft_now_high : Nat → Int32) (ft_now_goods : Nat → Int32) (ft_now_tube : Nat → Int32) (ft_plan_paidBy : Nat → Int32) : Option (Int32 × Int32 × Int32 × Int32 × Int32 × (Nat → Int32) × (Nat → Int32) × (Nat → Int32)) := bd (fX4_draw N it_now_seed it_plan_columns) fun (r1, g2) => bd (fX4_draw N g2 it_plan_kinds) fun (r4, g5) => bd (fX4_draw N g5 6) fun (r7, g8) => lt (r7 + 1) fun n10 => bd (fX1_sell N it_plan_kinds it_now_lost it_now_stamps it_now_sales it_now_damp it_now_worn ft_plan_value ft_now_price ft_now_wired ft_now_stick ft_plan_weight ft_now_low ft_now_high ft_now_goods ft_now_tube ft_plan_paidBy r1 r4 n10) fun (r11, g12, g13, g14, g15, g16, g17) => (if r11 = (-1000000003) then some (0, g12, g13, g14, g8, g15, g16, g17) else some (1, g12, g13, g14, g8, g15, g16, g17))
set_option maxHeartbeats 4000000 in
set_option maxRecDepth 100000 in
theorem ctX7_sellByDraws (l : Launch) (D : va_G) (cI cZ cB cS : ClassId) (kK kV : Nat → Nat) (sz : Nat) (qt qt_text qt_reader qt_images qt_kept qt_buyers qt_tries qt_trial qt_row qt_plan qt_now qt_plan_value qt_plan_weight qt_plan_slugWeight qt_plan_rhythm qt_plan_rhythmLength qt_plan_paidBy qt_now_tube qt_now_goods qt_now_stick qt_now_kicks qt_now_kickCount qt_now_low qt_now_high qt_now_price qt_now_wired : Nat) (it_faultAt : Int32) (it_plan_kinds : Int32) (it_plan_columns : Int32) (it_plan_slugs : Int32) (it_now_lost : Int32) (it_now_stamps : Int32) (it_now_sales : Int32) (it_now_damp : Int32) (it_now_worn : Int32) (it_now_seed : Int32) (ft_plan_value : Nat → Int32) (ft_now_price : Nat → Int32) (ft_now_wired : Nat → Int32) (ft_now_stick : Nat → Int32) (ft_plan_weight : Nat → Int32) (ft_now_low : Nat → Int32) (ft_now_high : Nat → Int32) (ft_now_goods : Nat → Int32) (ft_now_tube : Nat → Int32) (ft_plan_paidBy : Nat → Int32)  (N : Nat) (r0 : Int32) (w_it_now_lost : Int32) (w_it_now_stamps : Int32) (w_it_now_sales : Int32) (w_it_now_seed : Int32) (w_ft_now_stick : Nat → Int32) (w_ft_now_goods : Nat → Int32) (w_ft_now_tube : Nat → Int32) (h : fX7_sellByDraws N it_plan_kinds it_plan_columns it_now_lost it_now_stamps it_now_sales it_now_damp it_now_worn it_now_seed ft_plan_value ft_now_price ft_now_wired ft_now_stick ft_plan_weight ft_now_low ft_now_high ft_now_goods ft_now_tube ft_plan_paidBy = some (r0, w_it_now_lost, w_it_now_stamps, w_it_now_sales, w_it_now_seed, w_ft_now_stick, w_ft_now_goods, w_ft_now_tube)) : CtI l yX7_sellByDraws wsX7_sellByDraws { frames := 3, cells := 0, slots := 0, locals := 74 } D (TY cI cZ cB cS) kK kV [.ref qt] [(qt, .inr (7, [.ref qt_text, .ref qt_reader, .ref qt_images, .ref qt_kept, .ref qt_buyers, .ref qt_tries, .ref qt_trial, .ref qt_row, .ref qt_plan, .ref qt_now, .int it_faultAt])), (qt_plan, .inr (1, [.ref qt_plan_value, .ref qt_plan_weight, .ref qt_plan_slugWeight, .ref qt_plan_rhythm, .ref qt_plan_rhythmLength, .ref qt_plan_paidBy, .int it_plan_kinds, .int it_plan_columns, .int it_plan_slugs])), (qt_now, .inr (4, [.ref qt_now_tube, .ref qt_now_goods, .ref qt_now_stick, .ref qt_now_kicks, .ref qt_now_kickCount, .ref qt_now_low, .ref qt_now_high, .ref qt_now_price, .ref qt_now_wired, .int it_now_lost, .int it_now_stamps, .int it_now_sales, .int it_now_damp, .int it_now_worn, .int it_now_seed])), (qt_plan_value, .inl (cI, 5, .inl ft_plan_value)), (qt_now_price, .inl (cI, 5, .inl ft_now_price)), (qt_now_wired, .inl (cI, 5, .inl ft_now_wired)), (qt_now_stick, .inl (cI, 5, .inl ft_now_stick)), (qt_plan_weight, .inl (cI, 5, .inl ft_plan_weight)), (qt_now_low, .inl (cI, 5, .inl ft_now_low)), (qt_now_high, .inl (cI, 5, .inl ft_now_high)), (qt_now_goods, .inl (cI, 5, .inl ft_now_goods)), (qt_now_tube, .inl (cI, 5, .inl ft_now_tube)), (qt_plan_paidBy, .inl (cI, 5, .inl ft_plan_paidBy))] [(qt, .inr (7, [.ref qt_text, .ref qt_reader, .ref qt_images, .ref qt_kept, .ref qt_buyers, .ref qt_tries, .ref qt_trial, .ref qt_row, .ref qt_plan, .ref qt_now, .int it_faultAt])), (qt_plan, .inr (1, [.ref qt_plan_value, .ref qt_plan_weight, .ref qt_plan_slugWeight, .ref qt_plan_rhythm, .ref qt_plan_rhythmLength, .ref qt_plan_paidBy, .int it_plan_kinds, .int it_plan_columns, .int it_plan_slugs])), (qt_now, .inr (4, [.ref qt_now_tube, .ref qt_now_goods, .ref qt_now_stick, .ref qt_now_kicks, .ref qt_now_kickCount, .ref qt_now_low, .ref qt_now_high, .ref qt_now_price, .ref qt_now_wired, .int w_it_now_lost, .int w_it_now_stamps, .int w_it_now_sales, .int it_now_damp, .int it_now_worn, .int w_it_now_seed])), (qt_plan_value, .inl (cI, 5, .inl ft_plan_value)), (qt_now_price, .inl (cI, 5, .inl ft_now_price)), (qt_now_wired, .inl (cI, 5, .inl ft_now_wired)), (qt_now_stick, .inl (cI, 5, .inl w_ft_now_stick)), (qt_plan_weight, .inl (cI, 5, .inl ft_plan_weight)), (qt_now_low, .inl (cI, 5, .inl ft_now_low)), (qt_now_high, .inl (cI, 5, .inl ft_now_high)), (qt_now_goods, .inl (cI, 5, .inl w_ft_now_goods)), (qt_now_tube, .inl (cI, 5, .inl w_ft_now_tube)), (qt_plan_paidBy, .inl (cI, 5, .inl ft_plan_paidBy))] sz r0 := by
  refine mkI (cc := cX7_sellByDraws) (maxL := 4) (rt := .boolean) (own := RX7) (by decide) rfl rfl (Nat.le_of_ble_eq_true rfl) ?_
  intro p e s m args below meth c A Z ls hx hb hml hown hts hK hN hX hP hD hA hS hret hl
  have hl : lv_has ls 4 [(0, .ref qt)] := hl
  have fl68 : (Cond.fieldLink RX7 68 "SoupWall" "now" "LSoupWall$State;").before args s = true := hts _ (List.mem_of_getElem? (l := wsX7_sellByDraws) (i := 1) rfl)
  have hiX7 : ∀ w ∈ wsX70, w ∈ wsX7_sellByDraws := fun w h => List.mem_cons_of_mem _ (List.mem_append_left _ (List.mem_append_left _ (List.mem_append_right _ h)))
  have fl64 : (Cond.fieldLink RX7 64 "SoupWall" "plan" "LSoupWall$Plan;").before args s = true := hts _ (List.mem_of_getElem? (l := wsX7_sellByDraws) (i := 2) rfl)
  have fl104 : (Cond.fieldLinkNest "SoupWall" 104 "SoupWall$Plan" "columns" "I" "SoupWall").before args s = true := hN.f 6 rfl
  have hiX1 : ∀ w ∈ wsX10, w ∈ wsX7_sellByDraws := fun w h => List.mem_cons_of_mem _ (List.mem_append_left _ (List.mem_append_right _ h))
  have fl108 : (Cond.fieldLinkNest "SoupWall" 108 "SoupWall$Plan" "kinds" "I" "SoupWall").before args s = true := hN.f 5 rfl
  have cn191 : (Cond.constant RX7 191 (-1000000003)).before args s = true := hts _ (List.mem_of_getElem? (l := wsX7_sellByDraws) (i := 3) rfl)
  unfold fX7_sellByDraws at h
  refine lv_aload_n hx hb dX7_sellByDraws_0 rfl (lv_at hl 0 rfl) ?_
  refine va_get (ci := 7) (v := .ref qt_now) (C := RX7) (T := TX7) (N := 11) hx hb hts hiX7 hown hK hP 0 rfl rfl 9 (by decide) fl68 (fun _ h9 => h9) rfl dX7_sellByDraws_1 ?_
  refine lv_aload_n hx hb dX7_sellByDraws_4 rfl (lv_at hl 0 rfl) ?_
  refine va_get (ci := 7) (v := .ref qt_plan) (C := RX7) (T := TX7) (N := 11) hx hb hts hiX7 hown hK hP 0 rfl rfl 8 (by decide) fl64 (fun _ h9 => h9) rfl dX7_sellByDraws_5 ?_
  refine va_getN (ci := 1) (v := .int it_plan_columns) (C := RX1) (T := TX1) (N := 9) hx hb hts hiX1 hown hK hP 1 rfl rfl 7 (by decide) fl104 (fun _ h9 => h9) rfl dX7_sellByDraws_8 ?_
  replace h := bd_el h
  obtain ⟨⟨r1, g2⟩, hc3, h⟩ := h
  refine callVI (rest := []) ⟨hx, hb, hml, hown, hts⟩ (ctX4_draw l D cI cZ cB cS kK kV _ qt_now qt_now_tube qt_now_goods qt_now_stick qt_now_kicks qt_now_kickCount qt_now_low qt_now_high qt_now_price qt_now_wired it_now_lost it_now_stamps it_now_sales it_now_damp it_now_worn it_now_seed it_plan_columns N r1 g2 hc3) (cwV 1 hts gX7_sellByDraws_X4_draw rfl rfl rfl hdX4_draw ⟨Nat.le_of_ble_eq_true rfl, Nat.le_of_ble_eq_true rfl⟩) hK hN hX hP (dF hD rfl) hS hA [2] (mcC rfl mcN) (by decide +kernel) [(qt, .inr (7, [.ref qt_text, .ref qt_reader, .ref qt_images, .ref qt_kept, .ref qt_buyers, .ref qt_tries, .ref qt_trial, .ref qt_row, .ref qt_plan, .ref qt_now, .int it_faultAt])), (qt_plan, .inr (1, [.ref qt_plan_value, .ref qt_plan_weight, .ref qt_plan_slugWeight, .ref qt_plan_rhythm, .ref qt_plan_rhythmLength, .ref qt_plan_paidBy, .int it_plan_kinds, .int it_plan_columns, .int it_plan_slugs])), (qt_now, .inr (4, [.ref qt_now_tube, .ref qt_now_goods, .ref qt_now_stick, .ref qt_now_kicks, .ref qt_now_kickCount, .ref qt_now_low, .ref qt_now_high, .ref qt_now_price, .ref qt_now_wired, .int it_now_lost, .int it_now_stamps, .int it_now_sales, .int it_now_damp, .int it_now_worn, .int g2])), (qt_plan_value, .inl (cI, 5, .inl ft_plan_value)), (qt_now_price, .inl (cI, 5, .inl ft_now_price)), (qt_now_wired, .inl (cI, 5, .inl ft_now_wired)), (qt_now_stick, .inl (cI, 5, .inl ft_now_stick)), (qt_plan_weight, .inl (cI, 5, .inl ft_plan_weight)), (qt_now_low, .inl (cI, 5, .inl ft_now_low)), (qt_now_high, .inl (cI, 5, .inl ft_now_high)), (qt_now_goods, .inl (cI, 5, .inl ft_now_goods)), (qt_now_tube, .inl (cI, 5, .inl ft_now_tube)), (qt_plan_paidBy, .inl (cI, 5, .inl ft_plan_paidBy))] [0, 1, 3, 4, 5, 6, 7, 8, 9, 10, 11, 12] (mcC rfl mcN) ((mcC rfl (mcC rfl (mcC rfl (mcC rfl (mcC rfl (mcC rfl (mcC rfl (mcC rfl (mcC rfl (mcC rfl (mcC rfl (mcC rfl mcN)))))))))))).trans (mcC rfl (mcC rfl (mcC rfl (mcC rfl (mcC rfl (mcC rfl (mcC rfl (mcC rfl (mcC rfl (mcC rfl (mcC rfl (mcC rfl mcN)))))))))))).symm) 13 rfl (by decide +kernel) (va_recv hK hP (ci := 4) (q0 := 2) rfl rfl) rfl hl.1 rfl (Nat.le_of_ble_eq_true rfl) ⟨Nat.zero_le _, Nat.zero_le _⟩ dX7_sellByDraws_11 (fun H locs hP hS => ?_)
  refine lv_istore_n (lv' := [(1, .int r1), (0, .ref qt)]) hx hb dX7_sellByDraws_14 rfl hl (by decide) rfl (fun ls hl => ?_)
  refine lv_aload_n hx hb dX7_sellByDraws_15 rfl (lv_at hl 1 rfl) ?_
  refine va_get (ci := 7) (v := .ref qt_now) (C := RX7) (T := TX7) (N := 11) hx hb hts hiX7 hown hK hP 0 rfl rfl 9 (by decide) fl68 (fun _ h9 => h9) rfl dX7_sellByDraws_16 ?_
  refine lv_aload_n hx hb dX7_sellByDraws_19 rfl (lv_at hl 1 rfl) ?_
  refine va_get (ci := 7) (v := .ref qt_plan) (C := RX7) (T := TX7) (N := 11) hx hb hts hiX7 hown hK hP 0 rfl rfl 8 (by decide) fl64 (fun _ h9 => h9) rfl dX7_sellByDraws_20 ?_
  refine va_getN (ci := 1) (v := .int it_plan_kinds) (C := RX1) (T := TX1) (N := 9) hx hb hts hiX1 hown hK hP 1 rfl rfl 6 (by decide) fl108 (fun _ h9 => h9) rfl dX7_sellByDraws_23 ?_
  replace h := bd_el h
  obtain ⟨⟨r4, g5⟩, hc6, h⟩ := h
  refine callVI (rest := []) ⟨hx, hb, hml, hown, hts⟩ (ctX4_draw l D cI cZ cB cS kK kV _ qt_now qt_now_tube qt_now_goods qt_now_stick qt_now_kicks qt_now_kickCount qt_now_low qt_now_high qt_now_price qt_now_wired it_now_lost it_now_stamps it_now_sales it_now_damp it_now_worn g2 it_plan_kinds N r4 g5 hc6) (cwV 1 hts gX7_sellByDraws_X4_draw rfl rfl rfl hdX4_draw ⟨Nat.le_of_ble_eq_true rfl, Nat.le_of_ble_eq_true rfl⟩) hK hN hX hP (dF hD rfl) hS hA [2] (mcC rfl mcN) (by decide +kernel) [(qt, .inr (7, [.ref qt_text, .ref qt_reader, .ref qt_images, .ref qt_kept, .ref qt_buyers, .ref qt_tries, .ref qt_trial, .ref qt_row, .ref qt_plan, .ref qt_now, .int it_faultAt])), (qt_plan, .inr (1, [.ref qt_plan_value, .ref qt_plan_weight, .ref qt_plan_slugWeight, .ref qt_plan_rhythm, .ref qt_plan_rhythmLength, .ref qt_plan_paidBy, .int it_plan_kinds, .int it_plan_columns, .int it_plan_slugs])), (qt_now, .inr (4, [.ref qt_now_tube, .ref qt_now_goods, .ref qt_now_stick, .ref qt_now_kicks, .ref qt_now_kickCount, .ref qt_now_low, .ref qt_now_high, .ref qt_now_price, .ref qt_now_wired, .int it_now_lost, .int it_now_stamps, .int it_now_sales, .int it_now_damp, .int it_now_worn, .int g5])), (qt_plan_value, .inl (cI, 5, .inl ft_plan_value)), (qt_now_price, .inl (cI, 5, .inl ft_now_price)), (qt_now_wired, .inl (cI, 5, .inl ft_now_wired)), (qt_now_stick, .inl (cI, 5, .inl ft_now_stick)), (qt_plan_weight, .inl (cI, 5, .inl ft_plan_weight)), (qt_now_low, .inl (cI, 5, .inl ft_now_low)), (qt_now_high, .inl (cI, 5, .inl ft_now_high)), (qt_now_goods, .inl (cI, 5, .inl ft_now_goods)), (qt_now_tube, .inl (cI, 5, .inl ft_now_tube)), (qt_plan_paidBy, .inl (cI, 5, .inl ft_plan_paidBy))] [0, 1, 3, 4, 5, 6, 7, 8, 9, 10, 11, 12] (mcC rfl mcN) ((mcC rfl (mcC rfl (mcC rfl (mcC rfl (mcC rfl (mcC rfl (mcC rfl (mcC rfl (mcC rfl (mcC rfl (mcC rfl (mcC rfl mcN)))))))))))).trans (mcC rfl (mcC rfl (mcC rfl (mcC rfl (mcC rfl (mcC rfl (mcC rfl (mcC rfl (mcC rfl (mcC rfl (mcC rfl (mcC rfl mcN)))))))))))).symm) 13 rfl (by decide +kernel) (va_recv hK hP (ci := 4) (q0 := 2) rfl rfl) rfl hl.1 rfl (Nat.le_of_ble_eq_true rfl) ⟨Nat.zero_le _, Nat.zero_le _⟩ dX7_sellByDraws_26 (fun H locs hP hS => ?_)
  refine lv_istore_n (lv' := [(2, .int r4), (1, .int r1), (0, .ref qt)]) hx hb dX7_sellByDraws_29 rfl hl (by decide) rfl (fun ls hl => ?_)
  refine lv_aload_n hx hb dX7_sellByDraws_30 rfl (lv_at hl 2 rfl) ?_
  refine va_get (ci := 7) (v := .ref qt_now) (C := RX7) (T := TX7) (N := 11) hx hb hts hiX7 hown hK hP 0 rfl rfl 9 (by decide) fl68 (fun _ h9 => h9) rfl dX7_sellByDraws_31 ?_
  refine lv_bipush (v := 6) hx hb dX7_sellByDraws_34 (by decide) ?_
  replace h := bd_el h
  obtain ⟨⟨r7, g8⟩, hc9, h⟩ := h
  refine callVI (rest := []) ⟨hx, hb, hml, hown, hts⟩ (ctX4_draw l D cI cZ cB cS kK kV _ qt_now qt_now_tube qt_now_goods qt_now_stick qt_now_kicks qt_now_kickCount qt_now_low qt_now_high qt_now_price qt_now_wired it_now_lost it_now_stamps it_now_sales it_now_damp it_now_worn g5 6 N r7 g8 hc9) (cwV 1 hts gX7_sellByDraws_X4_draw rfl rfl rfl hdX4_draw ⟨Nat.le_of_ble_eq_true rfl, Nat.le_of_ble_eq_true rfl⟩) hK hN hX hP (dF hD rfl) hS hA [2] (mcC rfl mcN) (by decide +kernel) [(qt, .inr (7, [.ref qt_text, .ref qt_reader, .ref qt_images, .ref qt_kept, .ref qt_buyers, .ref qt_tries, .ref qt_trial, .ref qt_row, .ref qt_plan, .ref qt_now, .int it_faultAt])), (qt_plan, .inr (1, [.ref qt_plan_value, .ref qt_plan_weight, .ref qt_plan_slugWeight, .ref qt_plan_rhythm, .ref qt_plan_rhythmLength, .ref qt_plan_paidBy, .int it_plan_kinds, .int it_plan_columns, .int it_plan_slugs])), (qt_now, .inr (4, [.ref qt_now_tube, .ref qt_now_goods, .ref qt_now_stick, .ref qt_now_kicks, .ref qt_now_kickCount, .ref qt_now_low, .ref qt_now_high, .ref qt_now_price, .ref qt_now_wired, .int it_now_lost, .int it_now_stamps, .int it_now_sales, .int it_now_damp, .int it_now_worn, .int g8])), (qt_plan_value, .inl (cI, 5, .inl ft_plan_value)), (qt_now_price, .inl (cI, 5, .inl ft_now_price)), (qt_now_wired, .inl (cI, 5, .inl ft_now_wired)), (qt_now_stick, .inl (cI, 5, .inl ft_now_stick)), (qt_plan_weight, .inl (cI, 5, .inl ft_plan_weight)), (qt_now_low, .inl (cI, 5, .inl ft_now_low)), (qt_now_high, .inl (cI, 5, .inl ft_now_high)), (qt_now_goods, .inl (cI, 5, .inl ft_now_goods)), (qt_now_tube, .inl (cI, 5, .inl ft_now_tube)), (qt_plan_paidBy, .inl (cI, 5, .inl ft_plan_paidBy))] [0, 1, 3, 4, 5, 6, 7, 8, 9, 10, 11, 12] (mcC rfl mcN) ((mcC rfl (mcC rfl (mcC rfl (mcC rfl (mcC rfl (mcC rfl (mcC rfl (mcC rfl (mcC rfl (mcC rfl (mcC rfl (mcC rfl mcN)))))))))))).trans (mcC rfl (mcC rfl (mcC rfl (mcC rfl (mcC rfl (mcC rfl (mcC rfl (mcC rfl (mcC rfl (mcC rfl (mcC rfl (mcC rfl mcN)))))))))))).symm) 13 rfl (by decide +kernel) (va_recv hK hP (ci := 4) (q0 := 2) rfl rfl) rfl hl.1 rfl (Nat.le_of_ble_eq_true rfl) ⟨Nat.zero_le _, Nat.zero_le _⟩ dX7_sellByDraws_36 (fun H locs hP hS => ?_)
  refine lv_iconst (v := 1) hx hb dX7_sellByDraws_39 (by decide) ?_
  refine lv_iadd hx hb dX7_sellByDraws_40 ?_
  refine lv_topi (fun n10 en10 => ?_)
  replace h := lt_at en10 h
  refine lv_istore_n (lv' := [(3, .int n10), (2, .int r4), (1, .int r1), (0, .ref qt)]) hx hb dX7_sellByDraws_41 rfl hl (by decide) rfl (fun ls hl => ?_)
  refine lv_aload_n hx hb dX7_sellByDraws_42 rfl (lv_at hl 3 rfl) ?_
  refine va_get (ci := 7) (v := .ref qt_plan) (C := RX7) (T := TX7) (N := 11) hx hb hts hiX7 hown hK hP 0 rfl rfl 8 (by decide) fl64 (fun _ h9 => h9) rfl dX7_sellByDraws_43 ?_
  refine lv_aload_n hx hb dX7_sellByDraws_46 rfl (lv_at hl 3 rfl) ?_
  refine va_get (ci := 7) (v := .ref qt_now) (C := RX7) (T := TX7) (N := 11) hx hb hts hiX7 hown hK hP 0 rfl rfl 9 (by decide) fl68 (fun _ h9 => h9) rfl dX7_sellByDraws_47 ?_
  refine lv_iload_n hx hb dX7_sellByDraws_50 rfl (lv_at hl 2 rfl) ?_
  refine lv_iload_n hx hb dX7_sellByDraws_51 rfl (lv_at hl 1 rfl) ?_
  refine lv_iload_n hx hb dX7_sellByDraws_52 rfl (lv_at hl 0 rfl) ?_
  replace h := bd_el h
  obtain ⟨⟨r11, g12, g13, g14, g15, g16, g17⟩, hc18, h⟩ := h
  refine callVI (rest := []) ⟨hx, hb, hml, hown, hts⟩ (ctX1_sell l D cI cZ cB cS kK kV _ qt_plan qt_plan_value qt_plan_weight qt_plan_slugWeight qt_plan_rhythm qt_plan_rhythmLength qt_plan_paidBy qt_now qt_now_tube qt_now_goods qt_now_stick qt_now_kicks qt_now_kickCount qt_now_low qt_now_high qt_now_price qt_now_wired it_plan_kinds it_plan_columns it_plan_slugs it_now_lost it_now_stamps it_now_sales it_now_damp it_now_worn g8 ft_plan_value ft_now_price ft_now_wired ft_now_stick ft_plan_weight ft_now_low ft_now_high ft_now_goods ft_now_tube ft_plan_paidBy r1 r4 n10 N r11 g12 g13 g14 g15 g16 g17 hc18) (cwV 4 hts gX7_sellByDraws_X1_sell rfl rfl rfl hdX1_sell ⟨Nat.le_of_ble_eq_true rfl, Nat.le_of_ble_eq_true rfl⟩) hK hN hX hP (dF hD rfl) hS hA [1, 2, 3, 4, 5, 6, 7, 8, 9, 10, 11, 12] (mcC rfl (mcC rfl (mcC rfl (mcC rfl (mcC rfl (mcC rfl (mcC rfl (mcC rfl (mcC rfl (mcC rfl (mcC rfl (mcC rfl mcN)))))))))))) (by decide +kernel) [(qt, .inr (7, [.ref qt_text, .ref qt_reader, .ref qt_images, .ref qt_kept, .ref qt_buyers, .ref qt_tries, .ref qt_trial, .ref qt_row, .ref qt_plan, .ref qt_now, .int it_faultAt])), (qt_plan, .inr (1, [.ref qt_plan_value, .ref qt_plan_weight, .ref qt_plan_slugWeight, .ref qt_plan_rhythm, .ref qt_plan_rhythmLength, .ref qt_plan_paidBy, .int it_plan_kinds, .int it_plan_columns, .int it_plan_slugs])), (qt_now, .inr (4, [.ref qt_now_tube, .ref qt_now_goods, .ref qt_now_stick, .ref qt_now_kicks, .ref qt_now_kickCount, .ref qt_now_low, .ref qt_now_high, .ref qt_now_price, .ref qt_now_wired, .int g12, .int g13, .int g14, .int it_now_damp, .int it_now_worn, .int g8])), (qt_plan_value, .inl (cI, 5, .inl ft_plan_value)), (qt_now_price, .inl (cI, 5, .inl ft_now_price)), (qt_now_wired, .inl (cI, 5, .inl ft_now_wired)), (qt_now_stick, .inl (cI, 5, .inl g15)), (qt_plan_weight, .inl (cI, 5, .inl ft_plan_weight)), (qt_now_low, .inl (cI, 5, .inl ft_now_low)), (qt_now_high, .inl (cI, 5, .inl ft_now_high)), (qt_now_goods, .inl (cI, 5, .inl g16)), (qt_now_tube, .inl (cI, 5, .inl g17)), (qt_plan_paidBy, .inl (cI, 5, .inl ft_plan_paidBy))] [0] (mcC rfl (mcC rfl (mcC rfl (mcC rfl (mcC rfl (mcC rfl (mcC rfl (mcC rfl (mcC rfl (mcC rfl (mcC rfl (mcC rfl mcN)))))))))))) ((mcC rfl mcN).trans (mcC rfl mcN).symm) 13 rfl (by decide +kernel) (va_recv hK hP (ci := 1) (q0 := 1) rfl rfl) rfl hl.1 rfl (Nat.le_of_ble_eq_true rfl) ⟨Nat.zero_le _, Nat.zero_le _⟩ dX7_sellByDraws_53 (fun H locs hP hS => ?_)
  refine lv_ldc (v := (-1000000003)) hx hb hown cn191 dX7_sellByDraws_56 ?_
  refine lv_icmp_eq (tgt := 65) hx hb dX7_sellByDraws_58 (by decide) (fun c19 => ?_) (fun c19 => ?_)
  · replace h := if_t c19 h
    refine lv_iconst (v := 0) hx hb dX7_sellByDraws_65 (by decide) ?_
    simp only [Option.some.injEq, Prod.mk.injEq] at h
    obtain ⟨rfl, rfl, rfl, rfl, rfl, rfl, rfl, rfl⟩ := h
    exact hret _ _ _ _ hP hS rfl dX7_sellByDraws_66
  · replace h := if_f c19 h
    refine lv_iconst (v := 1) hx hb dX7_sellByDraws_61 (by decide) ?_
    refine lv_goto (tgt := 66) hx hb dX7_sellByDraws_62 (by decide) ?_
    simp only [Option.some.injEq, Prod.mk.injEq] at h
    obtain ⟨rfl, rfl, rfl, rfl, rfl, rfl, rfl, rfl⟩ := h
    exact hret _ _ _ _ hP hS rfl dX7_sellByDraws_66
theorem hdX7_sellByDraws : yX7_sellByDraws.cls = RX7 ∧ yX7_sellByDraws.cls ≠ "java/lang/invoke/MethodHandle" ∧ yX7_sellByDraws.cls ≠ "java/lang/invoke/VarHandle" ∧ (parseMethodDescriptor yX7_sellByDraws.desc).map (fun d => d.parameters.length) = some 0 := by decide +kernel
