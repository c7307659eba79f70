def fX7_rankOfBestSpan_L4 (N : Nat) : Nat → Int32 → Int32 → Int32 → Int32 → (Nat → Int32) → Int32 → (Nat → Int32) → Option (Int32)
  | 0, _, _, _, _, _, _, _ => none
  | k + 1, x1, x2, it_plan_kinds, it_plan_slugs, ft_plan_slugWeight, it_now_worn, ft_plan_weight => (if 99 < x2 then some x1 else bd (fX7_rankOfSpan N it_plan_kinds it_plan_slugs ft_plan_slugWeight it_now_worn ft_plan_weight x2 x2) fun r2 => lt ((if x1 < r2 then r2 else x1)) fun n4 => lt (x2 + 1) fun n5 => fX7_rankOfBestSpan_L4 N k n4 n5 it_plan_kinds it_plan_slugs ft_plan_slugWeight it_now_worn ft_plan_weight)
theorem fX7_rankOfBestSpan_L4_s (N : Nat) (k : Nat) (x1 : Int32) (x2 : Int32) (it_plan_kinds : Int32) (it_plan_slugs : Int32) (ft_plan_slugWeight : Nat → Int32) (it_now_worn : Int32) (ft_plan_weight : Nat → Int32) : fX7_rankOfBestSpan_L4 N (k + 1) x1 x2 it_plan_kinds it_plan_slugs ft_plan_slugWeight it_now_worn ft_plan_weight = ((if 99 < x2 then some x1 else bd (fX7_rankOfSpan N it_plan_kinds it_plan_slugs ft_plan_slugWeight it_now_worn ft_plan_weight x2 x2) fun r2 => lt ((if x1 < r2 then r2 else x1)) fun n4 => lt (x2 + 1) fun n5 => fX7_rankOfBestSpan_L4 N k n4 n5 it_plan_kinds it_plan_slugs ft_plan_slugWeight it_now_worn ft_plan_weight)) := rfl
def fX7_rankOfBestSpan_L42 (N : Nat) : Nat → Int32 → Int32 → Int32 → Int32 → Int32 → (Nat → Int32) → Int32 → (Nat → Int32) → Option (Int32)
  | 0, _, _, _, _, _, _, _, _ => none
  | k + 1, x1, x2, x3, it_plan_kinds, it_plan_slugs, ft_plan_slugWeight, it_now_worn, ft_plan_weight => (if it_plan_kinds ≤ x3 then some x1 else bd (fX1_weightNow N it_now_worn ft_plan_weight x2) fun r7 => bd (fX1_weightNow N it_now_worn ft_plan_weight x3) fun r9 => bd (fX7_rankOfSpan N it_plan_kinds it_plan_slugs ft_plan_slugWeight it_now_worn ft_plan_weight r7 r9) fun r11 => lt ((if x1 < r11 then r11 else x1)) fun n13 => lt (x3 + 1) fun n14 => fX7_rankOfBestSpan_L42 N k n13 x2 n14 it_plan_kinds it_plan_slugs ft_plan_slugWeight it_now_worn ft_plan_weight)
theorem fX7_rankOfBestSpan_L42_s (N : Nat) (k : Nat) (x1 : Int32) (x2 : Int32) (x3 : Int32) (it_plan_kinds : Int32) (it_plan_slugs : Int32) (ft_plan_slugWeight : Nat → Int32) (it_now_worn : Int32) (ft_plan_weight : Nat → Int32) : fX7_rankOfBestSpan_L42 N (k + 1) x1 x2 x3 it_plan_kinds it_plan_slugs ft_plan_slugWeight it_now_worn ft_plan_weight = ((if it_plan_kinds ≤ x3 then some x1 else bd (fX1_weightNow N it_now_worn ft_plan_weight x2) fun r7 => bd (fX1_weightNow N it_now_worn ft_plan_weight x3) fun r9 => bd (fX7_rankOfSpan N it_plan_kinds it_plan_slugs ft_plan_slugWeight it_now_worn ft_plan_weight r7 r9) fun r11 => lt ((if x1 < r11 then r11 else x1)) fun n13 => lt (x3 + 1) fun n14 => fX7_rankOfBestSpan_L42 N k n13 x2 n14 it_plan_kinds it_plan_slugs ft_plan_slugWeight it_now_worn ft_plan_weight)) := rfl
def fX7_rankOfBestSpan_L29 (N : Nat) : Nat → Int32 → Int32 → Int32 → Int32 → (Nat → Int32) → Int32 → (Nat → Int32) → Option (Int32)
  | 0, _, _, _, _, _, _, _ => none
  | k + 1, x1, x2, it_plan_kinds, it_plan_slugs, ft_plan_slugWeight, it_now_worn, ft_plan_weight => (if it_plan_kinds ≤ x2 then some x1 else bd (fX7_rankOfBestSpan_L42 N N x1 x2 0 it_plan_kinds it_plan_slugs ft_plan_slugWeight it_now_worn ft_plan_weight) fun n17 => lt (x2 + 1) fun n18 => fX7_rankOfBestSpan_L29 N k n17 n18 it_plan_kinds it_plan_slugs ft_plan_slugWeight it_now_worn ft_plan_weight)
theorem fX7_rankOfBestSpan_L29_s (N : Nat) (k : Nat) (x1 : Int32) (x2 : Int32) (it_plan_kinds : Int32) (it_plan_slugs : Int32) (ft_plan_slugWeight : Nat → Int32) (it_now_worn : Int32) (ft_plan_weight : Nat → Int32) : fX7_rankOfBestSpan_L29 N (k + 1) x1 x2 it_plan_kinds it_plan_slugs ft_plan_slugWeight it_now_worn ft_plan_weight = ((if it_plan_kinds ≤ x2 then some x1 else bd (fX7_rankOfBestSpan_L42 N N x1 x2 0 it_plan_kinds it_plan_slugs ft_plan_slugWeight it_now_worn ft_plan_weight) fun n17 => lt (x2 + 1) fun n18 => fX7_rankOfBestSpan_L29 N k n17 n18 it_plan_kinds it_plan_slugs ft_plan_slugWeight it_now_worn ft_plan_weight)) := rfl
def fX7_rankOfBestSpan (N : Nat) (it_plan_kinds : Int32) (it_plan_slugs : Int32) (ft_plan_slugWeight : Nat → Int32) (it_now_worn : Int32) (ft_plan_weight : Nat → Int32) : Option (Int32) := bd (fX7_rankOfBestSpan_L4 N N (-1) 1 it_plan_kinds it_plan_slugs ft_plan_slugWeight it_now_worn ft_plan_weight) fun n20 => bd (fX7_rankOfBestSpan_L29 N N n20 0 it_plan_kinds it_plan_slugs ft_plan_slugWeight it_now_worn ft_plan_weight) fun n22 => some n22
set_option maxHeartbeats 4000000 in
set_option maxRecDepth 100000 in
theorem ctX7_rankOfBestSpan (l : Launch) (D : va_G) (cI cZ cB cS : ClassId) (kK kV : Nat → Nat) (sz : Nat) (qt qt_text qt_reader qt_images qt_kept qt_buyers qt_tries qt_trial qt_row qt_plan qt_now qt_plan_value qt_plan_weight qt_plan_slugWeight qt_plan_rhythm qt_plan_rhythmLength qt_plan_paidBy qt_now_tube qt_now_goods qt_now_stick qt_now_kicks qt_now_kickCount qt_now_low qt_now_high qt_now_price qt_now_wired : Nat) (it_faultAt : Int32) (it_plan_kinds : Int32) (it_plan_columns : Int32) (it_plan_slugs : Int32) (ft_plan_slugWeight : Nat → Int32) (it_now_lost : Int32) (it_now_stamps : Int32) (it_now_sales : Int32) (it_now_damp : Int32) (it_now_worn : Int32) (it_now_seed : Int32) (ft_plan_weight : Nat → Int32)  (N : Nat) (r0 : Int32)  (h : fX7_rankOfBestSpan N it_plan_kinds it_plan_slugs ft_plan_slugWeight it_now_worn ft_plan_weight = some r0) : CtI l yX7_rankOfBestSpan wsX7_rankOfBestSpan { frames := 3, cells := 0, slots := 0, locals := 70 } D (TY cI cZ cB cS) kK kV [.ref qt] [(qt, .inr (7, [.ref qt_text, .ref qt_reader, .ref qt_images, .ref qt_kept, .ref qt_buyers, .ref qt_tries, .ref qt_trial, .ref qt_row, .ref qt_plan, .ref qt_now, .int it_faultAt])), (qt_plan, .inr (1, [.ref qt_plan_value, .ref qt_plan_weight, .ref qt_plan_slugWeight, .ref qt_plan_rhythm, .ref qt_plan_rhythmLength, .ref qt_plan_paidBy, .int it_plan_kinds, .int it_plan_columns, .int it_plan_slugs])), (qt_plan_slugWeight, .inl (cI, 5, .inl ft_plan_slugWeight)), (qt_now, .inr (4, [.ref qt_now_tube, .ref qt_now_goods, .ref qt_now_stick, .ref qt_now_kicks, .ref qt_now_kickCount, .ref qt_now_low, .ref qt_now_high, .ref qt_now_price, .ref qt_now_wired, .int it_now_lost, .int it_now_stamps, .int it_now_sales, .int it_now_damp, .int it_now_worn, .int it_now_seed])), (qt_plan_weight, .inl (cI, 5, .inl ft_plan_weight))] [(qt, .inr (7, [.ref qt_text, .ref qt_reader, .ref qt_images, .ref qt_kept, .ref qt_buyers, .ref qt_tries, .ref qt_trial, .ref qt_row, .ref qt_plan, .ref qt_now, .int it_faultAt])), (qt_plan, .inr (1, [.ref qt_plan_value, .ref qt_plan_weight, .ref qt_plan_slugWeight, .ref qt_plan_rhythm, .ref qt_plan_rhythmLength, .ref qt_plan_paidBy, .int it_plan_kinds, .int it_plan_columns, .int it_plan_slugs])), (qt_plan_slugWeight, .inl (cI, 5, .inl ft_plan_slugWeight)), (qt_now, .inr (4, [.ref qt_now_tube, .ref qt_now_goods, .ref qt_now_stick, .ref qt_now_kicks, .ref qt_now_kickCount, .ref qt_now_low, .ref qt_now_high, .ref qt_now_price, .ref qt_now_wired, .int it_now_lost, .int it_now_stamps, .int it_now_sales, .int it_now_damp, .int it_now_worn, .int it_now_seed])), (qt_plan_weight, .inl (cI, 5, .inl ft_plan_weight))] sz r0 := by
  refine mkI (cc := cX7_rankOfBestSpan) (maxL := 4) (rt := .int) (own := RX7) (by decide) rfl rfl (Nat.le_of_ble_eq_true rfl) ?_
  intro p e s m args below meth c A Z ls hx hb hml hown hts hK hN hX hP hD hA hS hret hl
  have hl : lv_has ls 4 [(0, .ref qt)] := hl
  have ml301 : (Cond.methodLink RX7 301 Lib.Math.max.name).before args s = true := hts _ (List.mem_of_getElem? (l := wsX7_rankOfBestSpan) (i := 1) rfl)
  have msmax : (Cond.static Lib.Math.max.name).before args s = true := hts _ (List.mem_of_getElem? (l := wsX7_rankOfBestSpan) (i := 2) rfl)
  have mi : (Cond.initialized "java/lang/Math").before args s = true := hts _ (List.mem_of_getElem? (l := wsX7_rankOfBestSpan) (i := 3) rfl)
  have mcmax : (Cond.code Lib.Math.max.name Lib.Math.max.code 2 (some .int)).before args s = true := hts _ (List.mem_of_getElem? (l := wsX7_rankOfBestSpan) (i := 4) rfl)
  have fl64 : (Cond.fieldLink RX7 64 "SoupWall" "plan" "LSoupWall$Plan;").before args s = true := hts _ (List.mem_of_getElem? (l := wsX7_rankOfBestSpan) (i := 5) rfl)
  have hiX7 : ∀ w ∈ wsX70, w ∈ wsX7_rankOfBestSpan := fun w h => List.mem_cons_of_mem _ (List.mem_append_left _ (List.mem_append_left _ (List.mem_append_right _ h)))
  have fl108 : (Cond.fieldLinkNest "SoupWall" 108 "SoupWall$Plan" "kinds" "I" "SoupWall").before args s = true := hN.f 5 rfl
  have hiX1 : ∀ w ∈ wsX10, w ∈ wsX7_rankOfBestSpan := fun w h => List.mem_cons_of_mem _ (List.mem_append_left _ (List.mem_append_right _ h))
  have fl68 : (Cond.fieldLink RX7 68 "SoupWall" "now" "LSoupWall$State;").before args s = true := hts _ (List.mem_of_getElem? (l := wsX7_rankOfBestSpan) (i := 6) rfl)
  have lp4 : ∀ (k : Nat) (x1 : Int32) (x2 : Int32)  (H : Heap) (locs : List Loc) (ls : Array Slot) (o : Int32), fX7_rankOfBestSpan_L4 N k x1 x2 it_plan_kinds it_plan_slugs ft_plan_slugWeight it_now_worn ft_plan_weight = some o → va_P D vwCl [(qt, .inr (7, [.ref qt_text, .ref qt_reader, .ref qt_images, .ref qt_kept, .ref qt_buyers, .ref qt_tries, .ref qt_trial, .ref qt_row, .ref qt_plan, .ref qt_now, .int it_faultAt])), (qt_plan, .inr (1, [.ref qt_plan_value, .ref qt_plan_weight, .ref qt_plan_slugWeight, .ref qt_plan_rhythm, .ref qt_plan_rhythmLength, .ref qt_plan_paidBy, .int it_plan_kinds, .int it_plan_columns, .int it_plan_slugs])), (qt_plan_slugWeight, .inl (cI, 5, .inl ft_plan_slugWeight)), (qt_now, .inr (4, [.ref qt_now_tube, .ref qt_now_goods, .ref qt_now_stick, .ref qt_now_kicks, .ref qt_now_kickCount, .ref qt_now_low, .ref qt_now_high, .ref qt_now_price, .ref qt_now_wired, .int it_now_lost, .int it_now_stamps, .int it_now_sales, .int it_now_damp, .int it_now_worn, .int it_now_seed])), (qt_plan_weight, .inl (cI, 5, .inl ft_plan_weight))] H → va_S A s.heap H locs → lv_has ls 4 [(0, .ref qt), (1, .int x1), (2, .int x2)] → (∀ (e1 : Int32), e1 = o → ∀ (H : Heap) (locs : List Loc) (ls : Array Slot), va_P D vwCl [(qt, .inr (7, [.ref qt_text, .ref qt_reader, .ref qt_images, .ref qt_kept, .ref qt_buyers, .ref qt_tries, .ref qt_trial, .ref qt_row, .ref qt_plan, .ref qt_now, .int it_faultAt])), (qt_plan, .inr (1, [.ref qt_plan_value, .ref qt_plan_weight, .ref qt_plan_slugWeight, .ref qt_plan_rhythm, .ref qt_plan_rhythmLength, .ref qt_plan_paidBy, .int it_plan_kinds, .int it_plan_columns, .int it_plan_slugs])), (qt_plan_slugWeight, .inl (cI, 5, .inl ft_plan_slugWeight)), (qt_now, .inr (4, [.ref qt_now_tube, .ref qt_now_goods, .ref qt_now_stick, .ref qt_now_kicks, .ref qt_now_kickCount, .ref qt_now_low, .ref qt_now_high, .ref qt_now_price, .ref qt_now_wired, .int it_now_lost, .int it_now_stamps, .int it_now_sales, .int it_now_damp, .int it_now_worn, .int it_now_seed])), (qt_plan_weight, .inl (cI, 5, .inl ft_plan_weight))] H → va_S A s.heap H locs → lv_has ls 4 [(0, .ref qt), (1, .int e1)] → W p l e ({ frames := 3, cells := 0, slots := 0, locals := 70 } : Room) s m args below meth c H locs 0 0 Z (F0 m 27 ls [])) → W p l e ({ frames := 3, cells := 0, slots := 0, locals := 70 } : Room) s m args below meth c H locs 0 0 Z (F0 m 4 ls []) := by
    intro k
    induction k with
    | zero =>
      intro x1 x2 H locs ls o h
      exact nomatch (show (none : Option (Int32)) = some o from h)
    | succ k ih =>
      intro x1 x2 H locs ls o h hP hS hl K
      rw [fX7_rankOfBestSpan_L4_s] at h
      refine lv_iload_n hx hb dX7_rankOfBestSpan_4 rfl (lv_at hl 2 rfl) ?_
      refine lv_bipush (v := 99) hx hb dX7_rankOfBestSpan_5 (by decide) ?_
      refine lv_icmp_gt (tgt := 27) hx hb dX7_rankOfBestSpan_7 (by decide) (fun c1 => ?_) (fun c1 => ?_)
      · have h := if_t c1 h
        exact K x1 (Option.some.inj h) _ _ _ hP hS (lv_sub hl [0, 1] rfl)
      · have h := if_f c1 h
        refine lv_iload_n hx hb dX7_rankOfBestSpan_10 rfl (lv_at hl 1 rfl) ?_
        refine lv_aload_n hx hb dX7_rankOfBestSpan_11 rfl (lv_at hl 0 rfl) ?_
        refine lv_iload_n hx hb dX7_rankOfBestSpan_12 rfl (lv_at hl 2 rfl) ?_
        refine lv_iload_n hx hb dX7_rankOfBestSpan_13 rfl (lv_at hl 2 rfl) ?_
        obtain ⟨r2, hc3, h⟩ := bd_el h
        refine callVI (rest := [.int x1]) ⟨hx, hb, hml, hown, hts⟩ (ctX7_rankOfSpan l D cI cZ cB cS kK kV _ qt qt_text qt_reader qt_images qt_kept qt_buyers qt_tries qt_trial qt_row qt_plan qt_now qt_plan_value qt_plan_weight qt_plan_slugWeight qt_plan_rhythm qt_plan_rhythmLength qt_plan_paidBy qt_now_tube qt_now_goods qt_now_stick qt_now_kicks qt_now_kickCount qt_now_low qt_now_high qt_now_price qt_now_wired it_faultAt it_plan_kinds it_plan_columns it_plan_slugs ft_plan_slugWeight it_now_lost it_now_stamps it_now_sales it_now_damp it_now_worn it_now_seed ft_plan_weight x2 x2 N r2 hc3) (cwV 2 hts gX7_rankOfBestSpan_X7_rankOfSpan rfl rfl rfl hdX7_rankOfSpan ⟨Nat.le_of_ble_eq_true rfl, Nat.le_of_ble_eq_true rfl⟩) hK hN hX hP (dF hD rfl) hS hA [0, 1, 2, 3, 4] rfl (by decide +kernel) [(qt, .inr (7, [.ref qt_text, .ref qt_reader, .ref qt_images, .ref qt_kept, .ref qt_buyers, .ref qt_tries, .ref qt_trial, .ref qt_row, .ref qt_plan, .ref qt_now, .int it_faultAt])), (qt_plan, .inr (1, [.ref qt_plan_value, .ref qt_plan_weight, .ref qt_plan_slugWeight, .ref qt_plan_rhythm, .ref qt_plan_rhythmLength, .ref qt_plan_paidBy, .int it_plan_kinds, .int it_plan_columns, .int it_plan_slugs])), (qt_plan_slugWeight, .inl (cI, 5, .inl ft_plan_slugWeight)), (qt_now, .inr (4, [.ref qt_now_tube, .ref qt_now_goods, .ref qt_now_stick, .ref qt_now_kicks, .ref qt_now_kickCount, .ref qt_now_low, .ref qt_now_high, .ref qt_now_price, .ref qt_now_wired, .int it_now_lost, .int it_now_stamps, .int it_now_sales, .int it_now_damp, .int it_now_worn, .int it_now_seed])), (qt_plan_weight, .inl (cI, 5, .inl ft_plan_weight))] [] rfl rfl 5 rfl (by decide +kernel) (va_recv hK hP (ci := 7) (q0 := 0) rfl rfl) rfl hl.1 rfl (Nat.le_of_ble_eq_true rfl) ⟨Nat.zero_le _, Nat.zero_le _⟩ dX7_rankOfBestSpan_14 (fun H locs hP hS => ?_)
        refine va_mmax hx hb (hml.trans hl.1.symm) hown ml301 msmax mi mcmax (Nat.le_of_ble_eq_true rfl) (Nat.le_of_ble_eq_true rfl) (Nat.zero_le _) (Nat.zero_le _) dX7_rankOfBestSpan_17 ?_
        refine lv_topi (fun n4 en4 => ?_)
        have h := lt_at en4 h
        refine lv_istore_n (lv' := [(1, .int n4), (0, .ref qt), (2, .int x2)]) hx hb dX7_rankOfBestSpan_20 rfl hl (by decide) rfl (fun ls hl => ?_)
        obtain ⟨n5, en5⟩ : ∃ z : Int32, z = x2 + 1 := ⟨_, rfl⟩
        have h := lt_at en5 h
        refine lv_iinc (v := n5) (lv' := [(2, .int n5), (1, .int n4), (0, .ref qt)]) hx hb dX7_rankOfBestSpan_21 hl (k := 2) rfl (by rw [en5]; rfl) (by decide) rfl (fun ls hl => ?_)
        refine lv_goto (tgt := 4) hx hb dX7_rankOfBestSpan_24 (by decide) ?_
        exact ih n4 n5 _ _ _ o h hP hS (lv_sub hl [2, 1, 0] rfl) K
  have lp42 : ∀ (k : Nat) (x1 : Int32) (x2 : Int32) (x3 : Int32)  (H : Heap) (locs : List Loc) (ls : Array Slot) (o : Int32), fX7_rankOfBestSpan_L42 N k x1 x2 x3 it_plan_kinds it_plan_slugs ft_plan_slugWeight it_now_worn ft_plan_weight = some o → va_P D vwCl [(qt, .inr (7, [.ref qt_text, .ref qt_reader, .ref qt_images, .ref qt_kept, .ref qt_buyers, .ref qt_tries, .ref qt_trial, .ref qt_row, .ref qt_plan, .ref qt_now, .int it_faultAt])), (qt_plan, .inr (1, [.ref qt_plan_value, .ref qt_plan_weight, .ref qt_plan_slugWeight, .ref qt_plan_rhythm, .ref qt_plan_rhythmLength, .ref qt_plan_paidBy, .int it_plan_kinds, .int it_plan_columns, .int it_plan_slugs])), (qt_plan_slugWeight, .inl (cI, 5, .inl ft_plan_slugWeight)), (qt_now, .inr (4, [.ref qt_now_tube, .ref qt_now_goods, .ref qt_now_stick, .ref qt_now_kicks, .ref qt_now_kickCount, .ref qt_now_low, .ref qt_now_high, .ref qt_now_price, .ref qt_now_wired, .int it_now_lost, .int it_now_stamps, .int it_now_sales, .int it_now_damp, .int it_now_worn, .int it_now_seed])), (qt_plan_weight, .inl (cI, 5, .inl ft_plan_weight))] H → va_S A s.heap H locs → lv_has ls 4 [(0, .ref qt), (1, .int x1), (2, .int x2), (3, .int x3)] → (∀ (e1 : Int32), e1 = o → ∀ (H : Heap) (locs : List Loc) (ls : Array Slot), va_P D vwCl [(qt, .inr (7, [.ref qt_text, .ref qt_reader, .ref qt_images, .ref qt_kept, .ref qt_buyers, .ref qt_tries, .ref qt_trial, .ref qt_row, .ref qt_plan, .ref qt_now, .int it_faultAt])), (qt_plan, .inr (1, [.ref qt_plan_value, .ref qt_plan_weight, .ref qt_plan_slugWeight, .ref qt_plan_rhythm, .ref qt_plan_rhythmLength, .ref qt_plan_paidBy, .int it_plan_kinds, .int it_plan_columns, .int it_plan_slugs])), (qt_plan_slugWeight, .inl (cI, 5, .inl ft_plan_slugWeight)), (qt_now, .inr (4, [.ref qt_now_tube, .ref qt_now_goods, .ref qt_now_stick, .ref qt_now_kicks, .ref qt_now_kickCount, .ref qt_now_low, .ref qt_now_high, .ref qt_now_price, .ref qt_now_wired, .int it_now_lost, .int it_now_stamps, .int it_now_sales, .int it_now_damp, .int it_now_worn, .int it_now_seed])), (qt_plan_weight, .inl (cI, 5, .inl ft_plan_weight))] H → va_S A s.heap H locs → lv_has ls 4 [(0, .ref qt), (1, .int e1), (2, .int x2)] → W p l e ({ frames := 3, cells := 0, slots := 0, locals := 70 } : Room) s m args below meth c H locs 0 0 Z (F0 m 92 ls [])) → W p l e ({ frames := 3, cells := 0, slots := 0, locals := 70 } : Room) s m args below meth c H locs 0 0 Z (F0 m 42 ls []) := by
    intro k
    induction k with
    | zero =>
      intro x1 x2 x3 H locs ls o h
      exact nomatch (show (none : Option (Int32)) = some o from h)
    | succ k ih =>
      intro x1 x2 x3 H locs ls o h hP hS hl K
      rw [fX7_rankOfBestSpan_L42_s] at h
      refine lv_iload_n hx hb dX7_rankOfBestSpan_42 rfl (lv_at hl 3 rfl) ?_
      refine lv_aload_n hx hb dX7_rankOfBestSpan_43 rfl (lv_at hl 0 rfl) ?_
      refine va_get (ci := 7) (v := .ref qt_plan) (C := RX7) (T := TX7) (N := 11) hx hb hts hiX7 hown hK hP 0 rfl rfl 8 (by decide) fl64 (fun _ h9 => h9) rfl dX7_rankOfBestSpan_44 ?_
      refine va_getN (ci := 1) (v := .int it_plan_kinds) (C := RX1) (T := TX1) (N := 9) hx hb hts hiX1 hown hK hP 1 rfl rfl 6 (by decide) fl108 (fun _ h9 => h9) rfl dX7_rankOfBestSpan_47 ?_
      refine lv_icmp_ge (tgt := 92) hx hb dX7_rankOfBestSpan_50 (by decide) (fun c6 => ?_) (fun c6 => ?_)
      · have h := if_t c6 h
        exact K x1 (Option.some.inj h) _ _ _ hP hS (lv_sub hl [0, 1, 2] rfl)
      · have h := if_f c6 h
        refine lv_iload_n hx hb dX7_rankOfBestSpan_53 rfl (lv_at hl 1 rfl) ?_
        refine lv_aload_n hx hb dX7_rankOfBestSpan_54 rfl (lv_at hl 0 rfl) ?_
        refine lv_aload_n hx hb dX7_rankOfBestSpan_55 rfl (lv_at hl 0 rfl) ?_
        refine va_get (ci := 7) (v := .ref qt_plan) (C := RX7) (T := TX7) (N := 11) hx hb hts hiX7 hown hK hP 0 rfl rfl 8 (by decide) fl64 (fun _ h9 => h9) rfl dX7_rankOfBestSpan_56 ?_
        refine lv_aload_n hx hb dX7_rankOfBestSpan_59 rfl (lv_at hl 0 rfl) ?_
        refine va_get (ci := 7) (v := .ref qt_now) (C := RX7) (T := TX7) (N := 11) hx hb hts hiX7 hown hK hP 0 rfl rfl 9 (by decide) fl68 (fun _ h9 => h9) rfl dX7_rankOfBestSpan_60 ?_
        refine lv_iload_n hx hb dX7_rankOfBestSpan_63 rfl (lv_at hl 2 rfl) ?_
        obtain ⟨r7, hc8, h⟩ := bd_el h
        refine callVI (rest := [.ref qt, .int x1]) ⟨hx, hb, hml, hown, hts⟩ (ctX1_weightNow l D cI cZ cB cS kK kV _ qt_plan qt_plan_value qt_plan_weight qt_plan_slugWeight qt_plan_rhythm qt_plan_rhythmLength qt_plan_paidBy qt_now qt_now_tube qt_now_goods qt_now_stick qt_now_kicks qt_now_kickCount qt_now_low qt_now_high qt_now_price qt_now_wired it_plan_kinds it_plan_columns it_plan_slugs it_now_lost it_now_stamps it_now_sales it_now_damp it_now_worn it_now_seed ft_plan_weight x2 N r7 hc8) (cwV 2 hts gX7_rankOfBestSpan_X1_weightNow rfl rfl rfl hdX1_weightNow ⟨Nat.le_of_ble_eq_true rfl, Nat.le_of_ble_eq_true rfl⟩) hK hN hX hP (dF hD rfl) hS hA [1, 3, 4] rfl (by decide +kernel) [(qt, .inr (7, [.ref qt_text, .ref qt_reader, .ref qt_images, .ref qt_kept, .ref qt_buyers, .ref qt_tries, .ref qt_trial, .ref qt_row, .ref qt_plan, .ref qt_now, .int it_faultAt])), (qt_plan, .inr (1, [.ref qt_plan_value, .ref qt_plan_weight, .ref qt_plan_slugWeight, .ref qt_plan_rhythm, .ref qt_plan_rhythmLength, .ref qt_plan_paidBy, .int it_plan_kinds, .int it_plan_columns, .int it_plan_slugs])), (qt_plan_slugWeight, .inl (cI, 5, .inl ft_plan_slugWeight)), (qt_now, .inr (4, [.ref qt_now_tube, .ref qt_now_goods, .ref qt_now_stick, .ref qt_now_kicks, .ref qt_now_kickCount, .ref qt_now_low, .ref qt_now_high, .ref qt_now_price, .ref qt_now_wired, .int it_now_lost, .int it_now_stamps, .int it_now_sales, .int it_now_damp, .int it_now_worn, .int it_now_seed])), (qt_plan_weight, .inl (cI, 5, .inl ft_plan_weight))] [0, 2] rfl rfl 5 rfl (by decide +kernel) (va_recv hK hP (ci := 1) (q0 := 1) rfl rfl) rfl hl.1 rfl (Nat.le_of_ble_eq_true rfl) ⟨Nat.zero_le _, Nat.zero_le _⟩ dX7_rankOfBestSpan_64 (fun H locs hP hS => ?_)
        refine lv_aload_n hx hb dX7_rankOfBestSpan_67 rfl (lv_at hl 0 rfl) ?_
        refine va_get (ci := 7) (v := .ref qt_plan) (C := RX7) (T := TX7) (N := 11) hx hb hts hiX7 hown hK hP 0 rfl rfl 8 (by decide) fl64 (fun _ h9 => h9) rfl dX7_rankOfBestSpan_68 ?_
        refine lv_aload_n hx hb dX7_rankOfBestSpan_71 rfl (lv_at hl 0 rfl) ?_
        refine va_get (ci := 7) (v := .ref qt_now) (C := RX7) (T := TX7) (N := 11) hx hb hts hiX7 hown hK hP 0 rfl rfl 9 (by decide) fl68 (fun _ h9 => h9) rfl dX7_rankOfBestSpan_72 ?_
        refine lv_iload_n hx hb dX7_rankOfBestSpan_75 rfl (lv_at hl 3 rfl) ?_
        obtain ⟨r9, hc10, h⟩ := bd_el h
        refine callVI (rest := [.int r7, .ref qt, .int x1]) ⟨hx, hb, hml, hown, hts⟩ (ctX1_weightNow l D cI cZ cB cS kK kV _ qt_plan qt_plan_value qt_plan_weight qt_plan_slugWeight qt_plan_rhythm qt_plan_rhythmLength qt_plan_paidBy qt_now qt_now_tube qt_now_goods qt_now_stick qt_now_kicks qt_now_kickCount qt_now_low qt_now_high qt_now_price qt_now_wired it_plan_kinds it_plan_columns it_plan_slugs it_now_lost it_now_stamps it_now_sales it_now_damp it_now_worn it_now_seed ft_plan_weight x3 N r9 hc10) (cwV 2 hts gX7_rankOfBestSpan_X1_weightNow rfl rfl rfl hdX1_weightNow ⟨Nat.le_of_ble_eq_true rfl, Nat.le_of_ble_eq_true rfl⟩) hK hN hX hP (dF hD rfl) hS hA [1, 3, 4] rfl (by decide +kernel) [(qt, .inr (7, [.ref qt_text, .ref qt_reader, .ref qt_images, .ref qt_kept, .ref qt_buyers, .ref qt_tries, .ref qt_trial, .ref qt_row, .ref qt_plan, .ref qt_now, .int it_faultAt])), (qt_plan, .inr (1, [.ref qt_plan_value, .ref qt_plan_weight, .ref qt_plan_slugWeight, .ref qt_plan_rhythm, .ref qt_plan_rhythmLength, .ref qt_plan_paidBy, .int it_plan_kinds, .int it_plan_columns, .int it_plan_slugs])), (qt_plan_slugWeight, .inl (cI, 5, .inl ft_plan_slugWeight)), (qt_now, .inr (4, [.ref qt_now_tube, .ref qt_now_goods, .ref qt_now_stick, .ref qt_now_kicks, .ref qt_now_kickCount, .ref qt_now_low, .ref qt_now_high, .ref qt_now_price, .ref qt_now_wired, .int it_now_lost, .int it_now_stamps, .int it_now_sales, .int it_now_damp, .int it_now_worn, .int it_now_seed])), (qt_plan_weight, .inl (cI, 5, .inl ft_plan_weight))] [0, 2] rfl rfl 5 rfl (by decide +kernel) (va_recv hK hP (ci := 1) (q0 := 1) rfl rfl) rfl hl.1 rfl (Nat.le_of_ble_eq_true rfl) ⟨Nat.zero_le _, Nat.zero_le _⟩ dX7_rankOfBestSpan_76 (fun H locs hP hS => ?_)
        obtain ⟨r11, hc12, h⟩ := bd_el h
        refine callVI (rest := [.int x1]) ⟨hx, hb, hml, hown, hts⟩ (ctX7_rankOfSpan l D cI cZ cB cS kK kV _ qt qt_text qt_reader qt_images qt_kept qt_buyers qt_tries qt_trial qt_row qt_plan qt_now qt_plan_value qt_plan_weight qt_plan_slugWeight qt_plan_rhythm qt_plan_rhythmLength qt_plan_paidBy qt_now_tube qt_now_goods qt_now_stick qt_now_kicks qt_now_kickCount qt_now_low qt_now_high qt_now_price qt_now_wired it_faultAt it_plan_kinds it_plan_columns it_plan_slugs ft_plan_slugWeight it_now_lost it_now_stamps it_now_sales it_now_damp it_now_worn it_now_seed ft_plan_weight r7 r9 N r11 hc12) (cwV 2 hts gX7_rankOfBestSpan_X7_rankOfSpan rfl rfl rfl hdX7_rankOfSpan ⟨Nat.le_of_ble_eq_true rfl, Nat.le_of_ble_eq_true rfl⟩) hK hN hX hP (dF hD rfl) hS hA [0, 1, 2, 3, 4] rfl (by decide +kernel) [(qt, .inr (7, [.ref qt_text, .ref qt_reader, .ref qt_images, .ref qt_kept, .ref qt_buyers, .ref qt_tries, .ref qt_trial, .ref qt_row, .ref qt_plan, .ref qt_now, .int it_faultAt])), (qt_plan, .inr (1, [.ref qt_plan_value, .ref qt_plan_weight, .ref qt_plan_slugWeight, .ref qt_plan_rhythm, .ref qt_plan_rhythmLength, .ref qt_plan_paidBy, .int it_plan_kinds, .int it_plan_columns, .int it_plan_slugs])), (qt_plan_slugWeight, .inl (cI, 5, .inl ft_plan_slugWeight)), (qt_now, .inr (4, [.ref qt_now_tube, .ref qt_now_goods, .ref qt_now_stick, .ref qt_now_kicks, .ref qt_now_kickCount, .ref qt_now_low, .ref qt_now_high, .ref qt_now_price, .ref qt_now_wired, .int it_now_lost, .int it_now_stamps, .int it_now_sales, .int it_now_damp, .int it_now_worn, .int it_now_seed])), (qt_plan_weight, .inl (cI, 5, .inl ft_plan_weight))] [] rfl rfl 5 rfl (by decide +kernel) (va_recv hK hP (ci := 7) (q0 := 0) rfl rfl) rfl hl.1 rfl (Nat.le_of_ble_eq_true rfl) ⟨Nat.zero_le _, Nat.zero_le _⟩ dX7_rankOfBestSpan_79 (fun H locs hP hS => ?_)
        refine va_mmax hx hb (hml.trans hl.1.symm) hown ml301 msmax mi mcmax (Nat.le_of_ble_eq_true rfl) (Nat.le_of_ble_eq_true rfl) (Nat.zero_le _) (Nat.zero_le _) dX7_rankOfBestSpan_82 ?_
        refine lv_topi (fun n13 en13 => ?_)
        have h := lt_at en13 h
        refine lv_istore_n (lv' := [(1, .int n13), (0, .ref qt), (2, .int x2), (3, .int x3)]) hx hb dX7_rankOfBestSpan_85 rfl hl (by decide) rfl (fun ls hl => ?_)
        obtain ⟨n14, en14⟩ : ∃ z : Int32, z = x3 + 1 := ⟨_, rfl⟩
        have h := lt_at en14 h
        refine lv_iinc (v := n14) (lv' := [(3, .int n14), (1, .int n13), (0, .ref qt), (2, .int x2)]) hx hb dX7_rankOfBestSpan_86 hl (k := 3) rfl (by rw [en14]; rfl) (by decide) rfl (fun ls hl => ?_)
        refine lv_goto (tgt := 42) hx hb dX7_rankOfBestSpan_89 (by decide) ?_
        exact ih n13 x2 n14 _ _ _ o h hP hS (lv_sub hl [2, 1, 3, 0] rfl) K
  have lp29 : ∀ (k : Nat) (x1 : Int32) (x2 : Int32)  (H : Heap) (locs : List Loc) (ls : Array Slot) (o : Int32), fX7_rankOfBestSpan_L29 N k x1 x2 it_plan_kinds it_plan_slugs ft_plan_slugWeight it_now_worn ft_plan_weight = some o → va_P D vwCl [(qt, .inr (7, [.ref qt_text, .ref qt_reader, .ref qt_images, .ref qt_kept, .ref qt_buyers, .ref qt_tries, .ref qt_trial, .ref qt_row, .ref qt_plan, .ref qt_now, .int it_faultAt])), (qt_plan, .inr (1, [.ref qt_plan_value, .ref qt_plan_weight, .ref qt_plan_slugWeight, .ref qt_plan_rhythm, .ref qt_plan_rhythmLength, .ref qt_plan_paidBy, .int it_plan_kinds, .int it_plan_columns, .int it_plan_slugs])), (qt_plan_slugWeight, .inl (cI, 5, .inl ft_plan_slugWeight)), (qt_now, .inr (4, [.ref qt_now_tube, .ref qt_now_goods, .ref qt_now_stick, .ref qt_now_kicks, .ref qt_now_kickCount, .ref qt_now_low, .ref qt_now_high, .ref qt_now_price, .ref qt_now_wired, .int it_now_lost, .int it_now_stamps, .int it_now_sales, .int it_now_damp, .int it_now_worn, .int it_now_seed])), (qt_plan_weight, .inl (cI, 5, .inl ft_plan_weight))] H → va_S A s.heap H locs → lv_has ls 4 [(0, .ref qt), (1, .int x1), (2, .int x2)] → (∀ (e1 : Int32), e1 = o → ∀ (H : Heap) (locs : List Loc) (ls : Array Slot), va_P D vwCl [(qt, .inr (7, [.ref qt_text, .ref qt_reader, .ref qt_images, .ref qt_kept, .ref qt_buyers, .ref qt_tries, .ref qt_trial, .ref qt_row, .ref qt_plan, .ref qt_now, .int it_faultAt])), (qt_plan, .inr (1, [.ref qt_plan_value, .ref qt_plan_weight, .ref qt_plan_slugWeight, .ref qt_plan_rhythm, .ref qt_plan_rhythmLength, .ref qt_plan_paidBy, .int it_plan_kinds, .int it_plan_columns, .int it_plan_slugs])), (qt_plan_slugWeight, .inl (cI, 5, .inl ft_plan_slugWeight)), (qt_now, .inr (4, [.ref qt_now_tube, .ref qt_now_goods, .ref qt_now_stick, .ref qt_now_kicks, .ref qt_now_kickCount, .ref qt_now_low, .ref qt_now_high, .ref qt_now_price, .ref qt_now_wired, .int it_now_lost, .int it_now_stamps, .int it_now_sales, .int it_now_damp, .int it_now_worn, .int it_now_seed])), (qt_plan_weight, .inl (cI, 5, .inl ft_plan_weight))] H → va_S A s.heap H locs → lv_has ls 4 [(1, .int e1)] → W p l e ({ frames := 3, cells := 0, slots := 0, locals := 70 } : Room) s m args below meth c H locs 0 0 Z (F0 m 98 ls [])) → W p l e ({ frames := 3, cells := 0, slots := 0, locals := 70 } : Room) s m args below meth c H locs 0 0 Z (F0 m 29 ls []) := by
    intro k
    induction k with
    | zero =>
      intro x1 x2 H locs ls o h
      exact nomatch (show (none : Option (Int32)) = some o from h)
    | succ k ih =>
      intro x1 x2 H locs ls o h hP hS hl K
      rw [fX7_rankOfBestSpan_L29_s] at h
      refine lv_iload_n hx hb dX7_rankOfBestSpan_29 rfl (lv_at hl 2 rfl) ?_
      refine lv_aload_n hx hb dX7_rankOfBestSpan_30 rfl (lv_at hl 0 rfl) ?_
      refine va_get (ci := 7) (v := .ref qt_plan) (C := RX7) (T := TX7) (N := 11) hx hb hts hiX7 hown hK hP 0 rfl rfl 8 (by decide) fl64 (fun _ h9 => h9) rfl dX7_rankOfBestSpan_31 ?_
      refine va_getN (ci := 1) (v := .int it_plan_kinds) (C := RX1) (T := TX1) (N := 9) hx hb hts hiX1 hown hK hP 1 rfl rfl 6 (by decide) fl108 (fun _ h9 => h9) rfl dX7_rankOfBestSpan_34 ?_
      refine lv_icmp_ge (tgt := 98) hx hb dX7_rankOfBestSpan_37 (by decide) (fun c15 => ?_) (fun c15 => ?_)
      · have h := if_t c15 h
        exact K x1 (Option.some.inj h) _ _ _ hP hS (lv_sub hl [1] rfl)
      · have h := if_f c15 h
        refine lv_iconst (v := 0) hx hb dX7_rankOfBestSpan_40 (by decide) ?_
        refine lv_istore_n (lv' := [(3, .int 0), (0, .ref qt), (1, .int x1), (2, .int x2)]) hx hb dX7_rankOfBestSpan_41 rfl hl (by decide) rfl (fun ls hl => ?_)
        obtain ⟨o16, ho16, h⟩ := bd_el h
        refine lp42 N x1 x2 0 _ _ _ o16 ho16 hP hS (lv_sub hl [1, 2, 3, 0] rfl) (fun n17 eo H locs ls hP hS hl => ?_)
        subst eo
        obtain ⟨n18, en18⟩ : ∃ z : Int32, z = x2 + 1 := ⟨_, rfl⟩
        have h := lt_at en18 h
        refine lv_iinc (v := n18) (lv' := [(2, .int n18), (0, .ref qt), (1, .int n17)]) hx hb dX7_rankOfBestSpan_92 hl (k := 2) rfl (by rw [en18]; rfl) (by decide) rfl (fun ls hl => ?_)
        refine lv_goto (tgt := 29) hx hb dX7_rankOfBestSpan_95 (by decide) ?_
        exact ih n17 n18 _ _ _ o h hP hS (lv_sub hl [1, 2, 0] rfl) K
  unfold fX7_rankOfBestSpan at h
  refine lv_iconst (v := (-1)) hx hb dX7_rankOfBestSpan_0 (by decide) ?_
  refine lv_istore_n (lv' := [(1, .int (-1)), (0, .ref qt)]) hx hb dX7_rankOfBestSpan_1 rfl hl (by decide) rfl (fun ls hl => ?_)
  refine lv_iconst (v := 1) hx hb dX7_rankOfBestSpan_2 (by decide) ?_
  refine lv_istore_n (lv' := [(2, .int 1), (1, .int (-1)), (0, .ref qt)]) hx hb dX7_rankOfBestSpan_3 rfl hl (by decide) rfl (fun ls hl => ?_)
  obtain ⟨o19, ho19, h⟩ := bd_el h
  refine lp4 N (-1) 1 _ _ _ o19 ho19 hP hS (lv_sub hl [2, 1, 0] rfl) (fun n20 eo H locs ls hP hS hl => ?_)
  subst eo
  refine lv_iconst (v := 0) hx hb dX7_rankOfBestSpan_27 (by decide) ?_
  refine lv_istore_n (lv' := [(2, .int 0), (0, .ref qt), (1, .int n20)]) hx hb dX7_rankOfBestSpan_28 rfl hl (by decide) rfl (fun ls hl => ?_)
  obtain ⟨o21, ho21, h⟩ := bd_el h
  refine lp29 N n20 0 _ _ _ o21 ho21 hP hS (lv_sub hl [1, 2, 0] rfl) (fun n22 eo H locs ls hP hS hl => ?_)
  subst eo
  refine lv_iload_n hx hb dX7_rankOfBestSpan_98 rfl (lv_at hl 0 rfl) ?_
  cases h
  exact hret _ _ _ _ hP hS rfl dX7_rankOfBestSpan_99
theorem hdX7_rankOfBestSpan : yX7_rankOfBestSpan.cls = RX7 ∧ yX7_rankOfBestSpan.cls ≠ "java/lang/invoke/MethodHandle" ∧ yX7_rankOfBestSpan.cls ≠ "java/lang/invoke/VarHandle" ∧ (parseMethodDescriptor yX7_rankOfBestSpan.desc).map (fun d => d.parameters.length) = some 0 := by decide +kernel

def fX7_best (N : Nat) (it_plan_kinds : Int32) (it_plan_slugs : Int32) (ft_plan_slugWeight : Nat → Int32) (it_now_worn : Int32) (ft_plan_weight : Nat → Int32) (x1 : Int32) : Option (Int32) := (if x1 < 0 then some (-1000000002) else (if x1 ≤ 2 then (if it_plan_kinds = 0 then (if (-1) = (-1) then some (-1) else lt (99 - ((-1) - (-1) / 100 * 100)) fun n13 => (if x1 = 0 then some n13 else if x1 = 1 then lt ((n13 + 99) - (((-1) / 100) - ((-1) / 100) / 100 * 100)) fun n16 => some n16 else lt ((-1) / 10000) fun n17 => some n17)) else bd (fX7_rankOfBestSpan N it_plan_kinds it_plan_slugs ft_plan_slugWeight it_now_worn ft_plan_weight) fun r4 => (if r4 = (-1) then some (-1) else lt (99 - (r4 - r4 / 100 * 100)) fun n7 => (if x1 = 0 then some n7 else if x1 = 1 then lt ((n7 + 99) - ((r4 / 100) - (r4 / 100) / 100 * 100)) fun n10 => some n10 else lt (r4 / 10000) fun n11 => some n11))) else some (-1000000002)))
set_option maxHeartbeats 4000000 in
set_option maxRecDepth 100000 in
theorem ctX7_best (l : Launch) (D : va_G) (cI cZ cB cS : ClassId) (kK kV : Nat → Nat) (sz : Nat) (qt qt_text qt_reader qt_images qt_kept qt_buyers qt_tries qt_trial qt_row qt_plan qt_now qt_plan_value qt_plan_weight qt_plan_slugWeight qt_plan_rhythm qt_plan_rhythmLength qt_plan_paidBy qt_now_tube qt_now_goods qt_now_stick qt_now_kicks qt_now_kickCount qt_now_low qt_now_high qt_now_price qt_now_wired : Nat) (it_faultAt : Int32) (it_plan_kinds : Int32) (it_plan_columns : Int32) (it_plan_slugs : Int32) (ft_plan_slugWeight : Nat → Int32) (it_now_lost : Int32) (it_now_stamps : Int32) (it_now_sales : Int32) (it_now_damp : Int32) (it_now_worn : Int32) (it_now_seed : Int32) (ft_plan_weight : Nat → Int32) (x1 : Int32) (N : Nat) (r0 : Int32)  (h : fX7_best N it_plan_kinds it_plan_slugs ft_plan_slugWeight it_now_worn ft_plan_weight x1 = some r0) : CtI l yX7_best wsX7_best { frames := 4, cells := 0, slots := 0, locals := 93 } D (TY cI cZ cB cS) kK kV [.ref qt, .int x1] [(qt, .inr (7, [.ref qt_text, .ref qt_reader, .ref qt_images, .ref qt_kept, .ref qt_buyers, .ref qt_tries, .ref qt_trial, .ref qt_row, .ref qt_plan, .ref qt_now, .int it_faultAt])), (qt_plan, .inr (1, [.ref qt_plan_value, .ref qt_plan_weight, .ref qt_plan_slugWeight, .ref qt_plan_rhythm, .ref qt_plan_rhythmLength, .ref qt_plan_paidBy, .int it_plan_kinds, .int it_plan_columns, .int it_plan_slugs])), (qt_plan_slugWeight, .inl (cI, 5, .inl ft_plan_slugWeight)), (qt_now, .inr (4, [.ref qt_now_tube, .ref qt_now_goods, .ref qt_now_stick, .ref qt_now_kicks, .ref qt_now_kickCount, .ref qt_now_low, .ref qt_now_high, .ref qt_now_price, .ref qt_now_wired, .int it_now_lost, .int it_now_stamps, .int it_now_sales, .int it_now_damp, .int it_now_worn, .int it_now_seed])), (qt_plan_weight, .inl (cI, 5, .inl ft_plan_weight))] [(qt, .inr (7, [.ref qt_text, .ref qt_reader, .ref qt_images, .ref qt_kept, .ref qt_buyers, .ref qt_tries, .ref qt_trial, .ref qt_row, .ref qt_plan, .ref qt_now, .int it_faultAt])), (qt_plan, .inr (1, [.ref qt_plan_value, .ref qt_plan_weight, .ref qt_plan_slugWeight, .ref qt_plan_rhythm, .ref qt_plan_rhythmLength, .ref qt_plan_paidBy, .int it_plan_kinds, .int it_plan_columns, .int it_plan_slugs])), (qt_plan_slugWeight, .inl (cI, 5, .inl ft_plan_slugWeight)), (qt_now, .inr (4, [.ref qt_now_tube, .ref qt_now_goods, .ref qt_now_stick, .ref qt_now_kicks, .ref qt_now_kickCount, .ref qt_now_low, .ref qt_now_high, .ref qt_now_price, .ref qt_now_wired, .int it_now_lost, .int it_now_stamps, .int it_now_sales, .int it_now_damp, .int it_now_worn, .int it_now_seed])), (qt_plan_weight, .inl (cI, 5, .inl ft_plan_weight))] sz r0 := by
  refine mkI (cc := cX7_best) (maxL := 4) (rt := .int) (own := RX7) (by decide) rfl rfl (Nat.le_of_ble_eq_true rfl) ?_
  intro p e s m args below meth c A Z ls hx hb hml hown hts hK hN hX hP hD hA hS hret hl
  have hl : lv_has ls 4 [(0, .ref qt), (1, .int x1)] := hl
  have cn75 : (Cond.constant RX7 75 (-1000000002)).before args s = true := hts _ (List.mem_of_getElem? (l := wsX7_best) (i := 1) rfl)
  have fl64 : (Cond.fieldLink RX7 64 "SoupWall" "plan" "LSoupWall$Plan;").before args s = true := hts _ (List.mem_of_getElem? (l := wsX7_best) (i := 2) rfl)
  have hiX7 : ∀ w ∈ wsX70, w ∈ wsX7_best := fun w h => List.mem_cons_of_mem _ (List.mem_append_left _ (List.mem_append_left _ (List.mem_append_right _ h)))
  have fl108 : (Cond.fieldLinkNest "SoupWall" 108 "SoupWall$Plan" "kinds" "I" "SoupWall").before args s = true := hN.f 5 rfl
  have hiX1 : ∀ w ∈ wsX10, w ∈ wsX7_best := fun w h => List.mem_cons_of_mem _ (List.mem_append_left _ (List.mem_append_right _ h))
  unfold fX7_best at h
  refine lv_iload_n hx hb dX7_best_0 rfl (lv_at hl 1 rfl) ?_
  refine lv_if_lt (tgt := 9) hx hb dX7_best_1 (by decide) (fun c1 => ?_) (fun c1 => ?_)
  · have h := if_t c1 h
    refine lv_ldc (v := (-1000000002)) hx hb hown cn75 dX7_best_9 ?_
    cases h
    exact hret _ _ _ _ hP hS rfl dX7_best_11
  · have h := if_f c1 h
    refine lv_iload_n hx hb dX7_best_4 rfl (lv_at hl 1 rfl) ?_
    refine lv_iconst (v := 2) hx hb dX7_best_5 (by decide) ?_
    refine lv_icmp_le (tgt := 12) hx hb dX7_best_6 (by decide) (fun c2 => ?_) (fun c2 => ?_)
    · have h := if_t c2 h
      refine lv_aload_n hx hb dX7_best_12 rfl (lv_at hl 0 rfl) ?_
      refine va_get (ci := 7) (v := .ref qt_plan) (C := RX7) (T := TX7) (N := 11) hx hb hts hiX7 hown hK hP 0 rfl rfl 8 (by decide) fl64 (fun _ h9 => h9) rfl dX7_best_13 ?_
      refine va_getN (ci := 1) (v := .int it_plan_kinds) (C := RX1) (T := TX1) (N := 9) hx hb hts hiX1 hown hK hP 1 rfl rfl 6 (by decide) fl108 (fun _ h9 => h9) rfl dX7_best_16 ?_
      refine lv_if_ne (tgt := 26) hx hb dX7_best_19 (by decide) (fun c3 => ?_) (fun c3 => ?_)
      · have h := if_f c3 h
        refine lv_aload_n hx hb dX7_best_26 rfl (lv_at hl 0 rfl) ?_
        obtain ⟨r4, hc5, h⟩ := bd_el h
        refine callVI (rest := []) ⟨hx, hb, hml, hown, hts⟩ (ctX7_rankOfBestSpan l D cI cZ cB cS kK kV _ qt qt_text qt_reader qt_images qt_kept qt_buyers qt_tries qt_trial qt_row qt_plan qt_now qt_plan_value qt_plan_weight qt_plan_slugWeight qt_plan_rhythm qt_plan_rhythmLength qt_plan_paidBy qt_now_tube qt_now_goods qt_now_stick qt_now_kicks qt_now_kickCount qt_now_low qt_now_high qt_now_price qt_now_wired it_faultAt it_plan_kinds it_plan_columns it_plan_slugs ft_plan_slugWeight it_now_lost it_now_stamps it_now_sales it_now_damp it_now_worn it_now_seed ft_plan_weight N r4 hc5) (cwV 0 hts gX7_best_X7_rankOfBestSpan rfl rfl rfl hdX7_rankOfBestSpan ⟨Nat.le_of_ble_eq_true rfl, Nat.le_of_ble_eq_true rfl⟩) hK hN hX hP (dF hD rfl) hS hA [0, 1, 2, 3, 4] rfl (by decide +kernel) [(qt, .inr (7, [.ref qt_text, .ref qt_reader, .ref qt_images, .ref qt_kept, .ref qt_buyers, .ref qt_tries, .ref qt_trial, .ref qt_row, .ref qt_plan, .ref qt_now, .int it_faultAt])), (qt_plan, .inr (1, [.ref qt_plan_value, .ref qt_plan_weight, .ref qt_plan_slugWeight, .ref qt_plan_rhythm, .ref qt_plan_rhythmLength, .ref qt_plan_paidBy, .int it_plan_kinds, .int it_plan_columns, .int it_plan_slugs])), (qt_plan_slugWeight, .inl (cI, 5, .inl ft_plan_slugWeight)), (qt_now, .inr (4, [.ref qt_now_tube, .ref qt_now_goods, .ref qt_now_stick, .ref qt_now_kicks, .ref qt_now_kickCount, .ref qt_now_low, .ref qt_now_high, .ref qt_now_price, .ref qt_now_wired, .int it_now_lost, .int it_now_stamps, .int it_now_sales, .int it_now_damp, .int it_now_worn, .int it_now_seed])), (qt_plan_weight, .inl (cI, 5, .inl ft_plan_weight))] [] rfl rfl 5 rfl (by decide +kernel) (va_recv hK hP (ci := 7) (q0 := 0) rfl rfl) rfl hl.1 rfl (Nat.le_of_ble_eq_true rfl) ⟨Nat.zero_le _, Nat.zero_le _⟩ dX7_best_27 (fun H locs hP hS => ?_)
        refine lv_istore_n (lv' := [(2, .int r4), (0, .ref qt), (1, .int x1)]) hx hb dX7_best_30 rfl hl (by decide) rfl (fun ls hl => ?_)
        refine lv_iload_n hx hb dX7_best_31 rfl (lv_at hl 0 rfl) ?_
        refine lv_iconst (v := (-1)) hx hb dX7_best_32 (by decide) ?_
        refine lv_icmp_ne (tgt := 38) hx hb dX7_best_33 (by decide) (fun c6 => ?_) (fun c6 => ?_)
        · have h := if_f c6 h
          refine lv_bipush (v := 99) hx hb dX7_best_38 (by decide) ?_
          refine lv_iload_n hx hb dX7_best_40 rfl (lv_at hl 0 rfl) ?_
          refine lv_bipush (v := 100) hx hb dX7_best_41 (by decide) ?_
          refine lv_irem hx hb dX7_best_43 (by decide) ?_
          refine lv_isub hx hb dX7_best_44 ?_
          refine lv_topi (fun n7 en7 => ?_)
          have h := lt_at en7 h
          refine lv_istore_n (lv' := [(3, .int n7), (2, .int r4), (0, .ref qt), (1, .int x1)]) hx hb dX7_best_45 rfl hl (by decide) rfl (fun ls hl => ?_)
          refine lv_iload_n hx hb dX7_best_46 rfl (lv_at hl 3 rfl) ?_
          by_cases c8 : x1 = 0
          · have h := if_t c8 h
            refine lv_lookup (off := 25) (tgt := 72) hx hb dX7_best_47 (by decide) (by rw [c8]; decide) (by decide) ?_
            refine lv_iload_n hx hb dX7_best_72 rfl (lv_at hl 0 rfl) ?_
            cases h
            exact hret _ _ _ _ hP hS rfl dX7_best_73
          have h := if_f c8 h
          by_cases c9 : x1 = 1
          · have h := if_t c9 h
            refine lv_lookup (off := 27) (tgt := 74) hx hb dX7_best_47 (by decide) (by rw [c9]; decide) (by decide) ?_
            refine lv_iload_n hx hb dX7_best_74 rfl (lv_at hl 0 rfl) ?_
            refine lv_bipush (v := 99) hx hb dX7_best_75 (by decide) ?_
            refine lv_iadd hx hb dX7_best_77 ?_
            refine lv_iload_n hx hb dX7_best_78 rfl (lv_at hl 1 rfl) ?_
            refine lv_bipush (v := 100) hx hb dX7_best_79 (by decide) ?_
            refine lv_idiv hx hb dX7_best_81 (by decide) ?_
            refine lv_bipush (v := 100) hx hb dX7_best_82 (by decide) ?_
            refine lv_irem hx hb dX7_best_84 (by decide) ?_
            refine lv_isub hx hb dX7_best_85 ?_
            refine lv_topi (fun n10 en10 => ?_)
            have h := lt_at en10 h
            cases h
            exact hret _ _ _ _ hP hS rfl dX7_best_86
          have h := if_f c9 h
          refine lv_lookup (off := 40) (tgt := 87) hx hb dX7_best_47 (by decide) (by have tc8 : (x1 : Int32).toInt ≠ 0 := sw_ne c8; have tc9 : (x1 : Int32).toInt ≠ 1 := sw_ne c9; simp [Op.lookupswitch.offset, tc8, Ne.symm tc8, tc9, Ne.symm tc9]) (by decide) ?_
          refine lv_iload_n hx hb dX7_best_87 rfl (lv_at hl 1 rfl) ?_
          refine lv_sipush (v := 10000) hx hb dX7_best_88 (by decide) ?_
          refine lv_idiv hx hb dX7_best_91 (by decide) ?_
          refine lv_topi (fun n11 en11 => ?_)
          have h := lt_at en11 h
          cases h
          exact hret _ _ _ _ hP hS rfl dX7_best_92
        · have h := if_t c6 h
          refine lv_iconst (v := (-1)) hx hb dX7_best_36 (by decide) ?_
          cases h
          exact hret _ _ _ _ hP hS rfl dX7_best_37
      · have h := if_t c3 h
        refine lv_iconst (v := (-1)) hx hb dX7_best_22 (by decide) ?_
        refine lv_goto (tgt := 30) hx hb dX7_best_23 (by decide) ?_
        refine lv_istore_n (lv' := [(2, .int (-1)), (0, .ref qt), (1, .int x1)]) hx hb dX7_best_30 rfl hl (by decide) rfl (fun ls hl => ?_)
        refine lv_iload_n hx hb dX7_best_31 rfl (lv_at hl 0 rfl) ?_
        refine lv_iconst (v := (-1)) hx hb dX7_best_32 (by decide) ?_
        refine lv_icmp_ne (tgt := 38) hx hb dX7_best_33 (by decide) (fun c12 => ?_) (fun c12 => ?_)
        · have h := if_f c12 h
          refine lv_bipush (v := 99) hx hb dX7_best_38 (by decide) ?_
          refine lv_iload_n hx hb dX7_best_40 rfl (lv_at hl 0 rfl) ?_
          refine lv_bipush (v := 100) hx hb dX7_best_41 (by decide) ?_
          refine lv_irem hx hb dX7_best_43 (by decide) ?_
          refine lv_isub hx hb dX7_best_44 ?_
          refine lv_topi (fun n13 en13 => ?_)
          have h := lt_at en13 h
          refine lv_istore_n (lv' := [(3, .int n13), (2, .int (-1)), (0, .ref qt), (1, .int x1)]) hx hb dX7_best_45 rfl hl (by decide) rfl (fun ls hl => ?_)
          refine lv_iload_n hx hb dX7_best_46 rfl (lv_at hl 3 rfl) ?_
          by_cases c14 : x1 = 0
          · have h := if_t c14 h
            refine lv_lookup (off := 25) (tgt := 72) hx hb dX7_best_47 (by decide) (by rw [c14]; decide) (by decide) ?_
            refine lv_iload_n hx hb dX7_best_72 rfl (lv_at hl 0 rfl) ?_
            cases h
            exact hret _ _ _ _ hP hS rfl dX7_best_73
          have h := if_f c14 h
          by_cases c15 : x1 = 1
          · have h := if_t c15 h
            refine lv_lookup (off := 27) (tgt := 74) hx hb dX7_best_47 (by decide) (by rw [c15]; decide) (by decide) ?_
            refine lv_iload_n hx hb dX7_best_74 rfl (lv_at hl 0 rfl) ?_
            refine lv_bipush (v := 99) hx hb dX7_best_75 (by decide) ?_
            refine lv_iadd hx hb dX7_best_77 ?_
            refine lv_iload_n hx hb dX7_best_78 rfl (lv_at hl 1 rfl) ?_
            refine lv_bipush (v := 100) hx hb dX7_best_79 (by decide) ?_
            refine lv_idiv hx hb dX7_best_81 (by decide) ?_
            refine lv_bipush (v := 100) hx hb dX7_best_82 (by decide) ?_
            refine lv_irem hx hb dX7_best_84 (by decide) ?_
            refine lv_isub hx hb dX7_best_85 ?_
            refine lv_topi (fun n16 en16 => ?_)
            have h := lt_at en16 h
            cases h
            exact hret _ _ _ _ hP hS rfl dX7_best_86
          have h := if_f c15 h
          refine lv_lookup (off := 40) (tgt := 87) hx hb dX7_best_47 (by decide) (by have tc14 : (x1 : Int32).toInt ≠ 0 := sw_ne c14; have tc15 : (x1 : Int32).toInt ≠ 1 := sw_ne c15; simp [Op.lookupswitch.offset, tc14, Ne.symm tc14, tc15, Ne.symm tc15]) (by decide) ?_
          refine lv_iload_n hx hb dX7_best_87 rfl (lv_at hl 1 rfl) ?_
          refine lv_sipush (v := 10000) hx hb dX7_best_88 (by decide) ?_
          refine lv_idiv hx hb dX7_best_91 (by decide) ?_
          refine lv_topi (fun n17 en17 => ?_)
          have h := lt_at en17 h
          cases h
          exact hret _ _ _ _ hP hS rfl dX7_best_92
        · have h := if_t c12 h
          refine lv_iconst (v := (-1)) hx hb dX7_best_36 (by decide) ?_
          cases h
          exact hret _ _ _ _ hP hS rfl dX7_best_37
    · have h := if_f c2 h
      refine lv_ldc (v := (-1000000002)) hx hb hown cn75 dX7_best_9 ?_
      cases h
      exact hret _ _ _ _ hP hS rfl dX7_best_11
theorem hdX7_best : yX7_best.cls = RX7 ∧ yX7_best.cls ≠ "java/lang/invoke/MethodHandle" ∧ yX7_best.cls ≠ "java/lang/invoke/VarHandle" ∧ (parseMethodDescriptor yX7_best.desc).map (fun d => d.parameters.length) = some 1 := by decide +kernel

def fX7_cheat (N : Nat) (it_plan_columns : Int32) (ft_now_price : Nat → Int32) (ft_now_wired : Nat → Int32) (x1 : Int32) : Option (Int32) := bd (fX1_isColumn N it_plan_columns x1) fun r1 => (if r1 = 0 then some (-1000000001) else bd (fX4_cheatOf N ft_now_price ft_now_wired x1) fun r4 => some r4)
set_option maxHeartbeats 4000000 in
set_option maxRecDepth 100000 in
theorem ctX7_cheat (l : Launch) (D : va_G) (cI cZ cB cS : ClassId) (kK kV : Nat → Nat) (sz : Nat) (qt qt_text qt_reader qt_images qt_kept qt_buyers qt_tries qt_trial qt_row qt_plan qt_now qt_plan_value qt_plan_weight qt_plan_slugWeight qt_plan_rhythm qt_plan_rhythmLength qt_plan_paidBy qt_now_tube qt_now_goods qt_now_stick qt_now_kicks qt_now_kickCount qt_now_low qt_now_high qt_now_price qt_now_wired : Nat) (it_faultAt : Int32) (it_plan_kinds : Int32) (it_plan_columns : Int32) (it_plan_slugs : Int32) (it_now_lost : Int32) (it_now_stamps : Int32) (it_now_sales : Int32) (it_now_damp : Int32) (it_now_worn : Int32) (it_now_seed : Int32) (ft_now_price : Nat → Int32) (ft_now_wired : Nat → Int32) (x1 : Int32) (N : Nat) (r0 : Int32)  (h : fX7_cheat N it_plan_columns ft_now_price ft_now_wired x1 = some r0) : CtI l yX7_cheat wsX7_cheat { frames := 1, cells := 0, slots := 0, locals := 21 } D (TY cI cZ cB cS) kK kV [.ref qt, .int x1] [(qt, .inr (7, [.ref qt_text, .ref qt_reader, .ref qt_images, .ref qt_kept, .ref qt_buyers, .ref qt_tries, .ref qt_trial, .ref qt_row, .ref qt_plan, .ref qt_now, .int it_faultAt])), (qt_plan, .inr (1, [.ref qt_plan_value, .ref qt_plan_weight, .ref qt_plan_slugWeight, .ref qt_plan_rhythm, .ref qt_plan_rhythmLength, .ref qt_plan_paidBy, .int it_plan_kinds, .int it_plan_columns, .int it_plan_slugs])), (qt_now, .inr (4, [.ref qt_now_tube, .ref qt_now_goods, .ref qt_now_stick, .ref qt_now_kicks, .ref qt_now_kickCount, .ref qt_now_low, .ref qt_now_high, .ref qt_now_price, .ref qt_now_wired, .int it_now_lost, .int it_now_stamps, .int it_now_sales, .int it_now_damp, .int it_now_worn, .int it_now_seed])), (qt_now_price, .inl (cI, 5, .inl ft_now_price)), (qt_now_wired, .inl (cI, 5, .inl ft_now_wired))] [(qt, .inr (7, [.ref qt_text, .ref qt_reader, .ref qt_images, .ref qt_kept, .ref qt_buyers, .ref qt_tries, .ref qt_trial, .ref qt_row, .ref qt_plan, .ref qt_now, .int it_faultAt])), (qt_plan, .inr (1, [.ref qt_plan_value, .ref qt_plan_weight, .ref qt_plan_slugWeight, .ref qt_plan_rhythm, .ref qt_plan_rhythmLength, .ref qt_plan_paidBy, .int it_plan_kinds, .int it_plan_columns, .int it_plan_slugs])), (qt_now, .inr (4, [.ref qt_now_tube, .ref qt_now_goods, .ref qt_now_stick, .ref qt_now_kicks, .ref qt_now_kickCount, .ref qt_now_low, .ref qt_now_high, .ref qt_now_price, .ref qt_now_wired, .int it_now_lost, .int it_now_stamps, .int it_now_sales, .int it_now_damp, .int it_now_worn, .int it_now_seed])), (qt_now_price, .inl (cI, 5, .inl ft_now_price)), (qt_now_wired, .inl (cI, 5, .inl ft_now_wired))] sz r0 := by
  refine mkI (cc := cX7_cheat) (maxL := 2) (rt := .int) (own := RX7) (by decide) rfl rfl (Nat.le_of_ble_eq_true rfl) ?_
  intro p e s m args below meth c A Z ls hx hb hml hown hts hK hN hX hP hD hA hS hret hl
  have hl : lv_has ls 2 [(0, .ref qt), (1, .int x1)] := hl
  have fl64 : (Cond.fieldLink RX7 64 "SoupWall" "plan" "LSoupWall$Plan;").before args s = true := hts _ (List.mem_of_getElem? (l := wsX7_cheat) (i := 1) rfl)
  have hiX7 : ∀ w ∈ wsX70, w ∈ wsX7_cheat := fun w h => List.mem_cons_of_mem _ (List.mem_append_left _ (List.mem_append_left _ (List.mem_append_right _ h)))
  have cn137 : (Cond.constant RX7 137 (-1000000001)).before args s = true := hts _ (List.mem_of_getElem? (l := wsX7_cheat) (i := 3) rfl)
  have fl68 : (Cond.fieldLink RX7 68 "SoupWall" "now" "LSoupWall$State;").before args s = true := hts _ (List.mem_of_getElem? (l := wsX7_cheat) (i := 2) rfl)
  unfold fX7_cheat at h
  refine lv_aload_n hx hb dX7_cheat_0 rfl (lv_at hl 0 rfl) ?_
  refine va_get (ci := 7) (v := .ref qt_plan) (C := RX7) (T := TX7) (N := 11) hx hb hts hiX7 hown hK hP 0 rfl rfl 8 (by decide) fl64 (fun _ h9 => h9) rfl dX7_cheat_1 ?_
  refine lv_iload_n hx hb dX7_cheat_4 rfl (lv_at hl 1 rfl) ?_
  obtain ⟨r1, hc2, h⟩ := bd_el h
  refine callVI (rest := []) ⟨hx, hb, hml, hown, hts⟩ (ctX1_isColumn l D cI cZ cB cS kK kV _ qt_plan qt_plan_value qt_plan_weight qt_plan_slugWeight qt_plan_rhythm qt_plan_rhythmLength qt_plan_paidBy it_plan_kinds it_plan_columns it_plan_slugs x1 N r1 hc2) (cwV 1 hts gX7_cheat_X1_isColumn rfl rfl rfl hdX1_isColumn ⟨Nat.le_of_ble_eq_true rfl, Nat.le_of_ble_eq_true rfl⟩) hK hN hX hP (dF hD rfl) hS hA [1] rfl (by decide +kernel) [(qt, .inr (7, [.ref qt_text, .ref qt_reader, .ref qt_images, .ref qt_kept, .ref qt_buyers, .ref qt_tries, .ref qt_trial, .ref qt_row, .ref qt_plan, .ref qt_now, .int it_faultAt])), (qt_plan, .inr (1, [.ref qt_plan_value, .ref qt_plan_weight, .ref qt_plan_slugWeight, .ref qt_plan_rhythm, .ref qt_plan_rhythmLength, .ref qt_plan_paidBy, .int it_plan_kinds, .int it_plan_columns, .int it_plan_slugs])), (qt_now, .inr (4, [.ref qt_now_tube, .ref qt_now_goods, .ref qt_now_stick, .ref qt_now_kicks, .ref qt_now_kickCount, .ref qt_now_low, .ref qt_now_high, .ref qt_now_price, .ref qt_now_wired, .int it_now_lost, .int it_now_stamps, .int it_now_sales, .int it_now_damp, .int it_now_worn, .int it_now_seed])), (qt_now_price, .inl (cI, 5, .inl ft_now_price)), (qt_now_wired, .inl (cI, 5, .inl ft_now_wired))] [0, 2, 3, 4] rfl rfl 5 rfl (by decide +kernel) (va_recv hK hP (ci := 1) (q0 := 1) rfl rfl) rfl hl.1 rfl (Nat.le_of_ble_eq_true rfl) ⟨Nat.zero_le _, Nat.zero_le _⟩ dX7_cheat_5 (fun H locs hP hS => ?_)
  refine lv_if_eq (tgt := 22) hx hb dX7_cheat_8 (by decide) (fun c3 => ?_) (fun c3 => ?_)
  · have h := if_t c3 h
    refine lv_ldc (v := (-1000000001)) hx hb hown cn137 dX7_cheat_22 ?_
    cases h
    exact hret _ _ _ _ hP hS rfl dX7_cheat_24
  · have h := if_f c3 h
    refine lv_aload_n hx hb dX7_cheat_11 rfl (lv_at hl 0 rfl) ?_
    refine va_get (ci := 7) (v := .ref qt_now) (C := RX7) (T := TX7) (N := 11) hx hb hts hiX7 hown hK hP 0 rfl rfl 9 (by decide) fl68 (fun _ h9 => h9) rfl dX7_cheat_12 ?_
    refine lv_iload_n hx hb dX7_cheat_15 rfl (lv_at hl 1 rfl) ?_
    obtain ⟨r4, hc5, h⟩ := bd_el h
    refine callVI (rest := []) ⟨hx, hb, hml, hown, hts⟩ (ctX4_cheatOf l D cI cZ cB cS kK kV _ qt_now qt_now_tube qt_now_goods qt_now_stick qt_now_kicks qt_now_kickCount qt_now_low qt_now_high qt_now_price qt_now_wired it_now_lost it_now_stamps it_now_sales it_now_damp it_now_worn it_now_seed ft_now_price ft_now_wired x1 N r4 hc5) (cwV 1 hts gX7_cheat_X4_cheatOf rfl rfl rfl hdX4_cheatOf ⟨Nat.le_of_ble_eq_true rfl, Nat.le_of_ble_eq_true rfl⟩) hK hN hX hP (dF hD rfl) hS hA [2, 3, 4] rfl (by decide +kernel) [(qt, .inr (7, [.ref qt_text, .ref qt_reader, .ref qt_images, .ref qt_kept, .ref qt_buyers, .ref qt_tries, .ref qt_trial, .ref qt_row, .ref qt_plan, .ref qt_now, .int it_faultAt])), (qt_plan, .inr (1, [.ref qt_plan_value, .ref qt_plan_weight, .ref qt_plan_slugWeight, .ref qt_plan_rhythm, .ref qt_plan_rhythmLength, .ref qt_plan_paidBy, .int it_plan_kinds, .int it_plan_columns, .int it_plan_slugs])), (qt_now, .inr (4, [.ref qt_now_tube, .ref qt_now_goods, .ref qt_now_stick, .ref qt_now_kicks, .ref qt_now_kickCount, .ref qt_now_low, .ref qt_now_high, .ref qt_now_price, .ref qt_now_wired, .int it_now_lost, .int it_now_stamps, .int it_now_sales, .int it_now_damp, .int it_now_worn, .int it_now_seed])), (qt_now_price, .inl (cI, 5, .inl ft_now_price)), (qt_now_wired, .inl (cI, 5, .inl ft_now_wired))] [0, 1] rfl rfl 5 rfl (by decide +kernel) (va_recv hK hP (ci := 4) (q0 := 2) rfl rfl) rfl hl.1 rfl (Nat.le_of_ble_eq_true rfl) ⟨Nat.zero_le _, Nat.zero_le _⟩ dX7_cheat_16 (fun H locs hP hS => ?_)
    refine lv_goto (tgt := 24) hx hb dX7_cheat_19 (by decide) ?_
    cases h
    exact hret _ _ _ _ hP hS rfl dX7_cheat_24
theorem hdX7_cheat : yX7_cheat.cls = RX7 ∧ yX7_cheat.cls ≠ "java/lang/invoke/MethodHandle" ∧ yX7_cheat.cls ≠ "java/lang/invoke/VarHandle" ∧ (parseMethodDescriptor yX7_cheat.desc).map (fun d => d.parameters.length) = some 1 := by decide +kernel

def fX7_cheats_L6 (N : Nat) : Nat → Int32 → Int32 → Int32 → Int32 → (Nat → Int32) → (Nat → Int32) → Option (Int32)
  | 0, _, _, _, _, _, _ => none
  | k + 1, x1, x2, x3, it_plan_columns, ft_now_price, ft_now_wired => (if it_plan_columns ≤ x3 then some x1 else bd (fX4_cheatOf N ft_now_price ft_now_wired x3) fun r2 => (if r2 ≤ x2 then lt (x3 + 1) fun n5 => fX7_cheats_L6 N k x1 x2 n5 it_plan_columns ft_now_price ft_now_wired else bd (fX4_cheatOf N ft_now_price ft_now_wired x3) fun r6 => lt (x3 + 1) fun n8 => fX7_cheats_L6 N k x3 r6 n8 it_plan_columns ft_now_price ft_now_wired))
theorem fX7_cheats_L6_s (N : Nat) (k : Nat) (x1 : Int32) (x2 : Int32) (x3 : Int32) (it_plan_columns : Int32) (ft_now_price : Nat → Int32) (ft_now_wired : Nat → Int32) : fX7_cheats_L6 N (k + 1) x1 x2 x3 it_plan_columns ft_now_price ft_now_wired = ((if it_plan_columns ≤ x3 then some x1 else bd (fX4_cheatOf N ft_now_price ft_now_wired x3) fun r2 => (if r2 ≤ x2 then lt (x3 + 1) fun n5 => fX7_cheats_L6 N k x1 x2 n5 it_plan_columns ft_now_price ft_now_wired else bd (fX4_cheatOf N ft_now_price ft_now_wired x3) fun r6 => lt (x3 + 1) fun n8 => fX7_cheats_L6 N k x3 r6 n8 it_plan_columns ft_now_price ft_now_wired))) := rfl
def fX7_cheats (N : Nat) (it_plan_columns : Int32) (ft_now_price : Nat → Int32) (ft_now_wired : Nat → Int32) : Option (Int32) := bd (fX7_cheats_L6 N N (-1) 0 0 it_plan_columns ft_now_price ft_now_wired) fun n10 => some n10
set_option maxHeartbeats 4000000 in
set_option maxRecDepth 100000 in
theorem ctX7_cheats (l : Launch) (D : va_G) (cI cZ cB cS : ClassId) (kK kV : Nat → Nat) (sz : Nat) (qt qt_text qt_reader qt_images qt_kept qt_buyers qt_tries qt_trial qt_row qt_plan qt_now qt_plan_value qt_plan_weight qt_plan_slugWeight qt_plan_rhythm qt_plan_rhythmLength qt_plan_paidBy qt_now_tube qt_now_goods qt_now_stick qt_now_kicks qt_now_kickCount qt_now_low qt_now_high qt_now_price qt_now_wired : Nat) (it_faultAt : Int32) (it_plan_kinds : Int32) (it_plan_columns : Int32) (it_plan_slugs : Int32) (it_now_lost : Int32) (it_now_stamps : Int32) (it_now_sales : Int32) (it_now_damp : Int32) (it_now_worn : Int32) (it_now_seed : Int32) (ft_now_price : Nat → Int32) (ft_now_wired : Nat → Int32)  (N : Nat) (r0 : Int32)  (h : fX7_cheats N it_plan_columns ft_now_price ft_now_wired = some r0) : CtI l yX7_cheats wsX7_cheats { frames := 1, cells := 0, slots := 0, locals := 21 } D (TY cI cZ cB cS) kK kV [.ref qt] [(qt, .inr (7, [.ref qt_text, .ref qt_reader, .ref qt_images, .ref qt_kept, .ref qt_buyers, .ref qt_tries, .ref qt_trial, .ref qt_row, .ref qt_plan, .ref qt_now, .int it_faultAt])), (qt_plan, .inr (1, [.ref qt_plan_value, .ref qt_plan_weight, .ref qt_plan_slugWeight, .ref qt_plan_rhythm, .ref qt_plan_rhythmLength, .ref qt_plan_paidBy, .int it_plan_kinds, .int it_plan_columns, .int it_plan_slugs])), (qt_now, .inr (4, [.ref qt_now_tube, .ref qt_now_goods, .ref qt_now_stick, .ref qt_now_kicks, .ref qt_now_kickCount, .ref qt_now_low, .ref qt_now_high, .ref qt_now_price, .ref qt_now_wired, .int it_now_lost, .int it_now_stamps, .int it_now_sales, .int it_now_damp, .int it_now_worn, .int it_now_seed])), (qt_now_price, .inl (cI, 5, .inl ft_now_price)), (qt_now_wired, .inl (cI, 5, .inl ft_now_wired))] [(qt, .inr (7, [.ref qt_text, .ref qt_reader, .ref qt_images, .ref qt_kept, .ref qt_buyers, .ref qt_tries, .ref qt_trial, .ref qt_row, .ref qt_plan, .ref qt_now, .int it_faultAt])), (qt_plan, .inr (1, [.ref qt_plan_value, .ref qt_plan_weight, .ref qt_plan_slugWeight, .ref qt_plan_rhythm, .ref qt_plan_rhythmLength, .ref qt_plan_paidBy, .int it_plan_kinds, .int it_plan_columns, .int it_plan_slugs])), (qt_now, .inr (4, [.ref qt_now_tube, .ref qt_now_goods, .ref qt_now_stick, .ref qt_now_kicks, .ref qt_now_kickCount, .ref qt_now_low, .ref qt_now_high, .ref qt_now_price, .ref qt_now_wired, .int it_now_lost, .int it_now_stamps, .int it_now_sales, .int it_now_damp, .int it_now_worn, .int it_now_seed])), (qt_now_price, .inl (cI, 5, .inl ft_now_price)), (qt_now_wired, .inl (cI, 5, .inl ft_now_wired))] sz r0 := by
  refine mkI (cc := cX7_cheats) (maxL := 4) (rt := .int) (own := RX7) (by decide) rfl rfl (Nat.le_of_ble_eq_true rfl) ?_
  intro p e s m args below meth c A Z ls hx hb hml hown hts hK hN hX hP hD hA hS hret hl
  have hl : lv_has ls 4 [(0, .ref qt)] := hl
  have fl64 : (Cond.fieldLink RX7 64 "SoupWall" "plan" "LSoupWall$Plan;").before args s = true := hts _ (List.mem_of_getElem? (l := wsX7_cheats) (i := 1) rfl)
  have hiX7 : ∀ w ∈ wsX70, w ∈ wsX7_cheats := fun w h => List.mem_cons_of_mem _ (List.mem_append_left _ (List.mem_append_left _ (List.mem_append_right _ h)))
  have fl104 : (Cond.fieldLinkNest "SoupWall" 104 "SoupWall$Plan" "columns" "I" "SoupWall").before args s = true := hN.f 6 rfl
  have hiX1 : ∀ w ∈ wsX10, w ∈ wsX7_cheats := fun w h => List.mem_cons_of_mem _ (List.mem_append_left _ (List.mem_append_right _ h))
  have fl68 : (Cond.fieldLink RX7 68 "SoupWall" "now" "LSoupWall$State;").before args s = true := hts _ (List.mem_of_getElem? (l := wsX7_cheats) (i := 2) rfl)
  have lp6 : ∀ (k : Nat) (x1 : Int32) (x2 : Int32) (x3 : Int32)  (H : Heap) (locs : List Loc) (ls : Array Slot) (o : Int32), fX7_cheats_L6 N k x1 x2 x3 it_plan_columns ft_now_price ft_now_wired = some o → va_P D vwCl [(qt, .inr (7, [.ref qt_text, .ref qt_reader, .ref qt_images, .ref qt_kept, .ref qt_buyers, .ref qt_tries, .ref qt_trial, .ref qt_row, .ref qt_plan, .ref qt_now, .int it_faultAt])), (qt_plan, .inr (1, [.ref qt_plan_value, .ref qt_plan_weight, .ref qt_plan_slugWeight, .ref qt_plan_rhythm, .ref qt_plan_rhythmLength, .ref qt_plan_paidBy, .int it_plan_kinds, .int it_plan_columns, .int it_plan_slugs])), (qt_now, .inr (4, [.ref qt_now_tube, .ref qt_now_goods, .ref qt_now_stick, .ref qt_now_kicks, .ref qt_now_kickCount, .ref qt_now_low, .ref qt_now_high, .ref qt_now_price, .ref qt_now_wired, .int it_now_lost, .int it_now_stamps, .int it_now_sales, .int it_now_damp, .int it_now_worn, .int it_now_seed])), (qt_now_price, .inl (cI, 5, .inl ft_now_price)), (qt_now_wired, .inl (cI, 5, .inl ft_now_wired))] H → va_S A s.heap H locs → lv_has ls 4 [(0, .ref qt), (1, .int x1), (2, .int x2), (3, .int x3)] → (∀ (e1 : Int32), e1 = o → ∀ (H : Heap) (locs : List Loc) (ls : Array Slot), va_P D vwCl [(qt, .inr (7, [.ref qt_text, .ref qt_reader, .ref qt_images, .ref qt_kept, .ref qt_buyers, .ref qt_tries, .ref qt_trial, .ref qt_row, .ref qt_plan, .ref qt_now, .int it_faultAt])), (qt_plan, .inr (1, [.ref qt_plan_value, .ref qt_plan_weight, .ref qt_plan_slugWeight, .ref qt_plan_rhythm, .ref qt_plan_rhythmLength, .ref qt_plan_paidBy, .int it_plan_kinds, .int it_plan_columns, .int it_plan_slugs])), (qt_now, .inr (4, [.ref qt_now_tube, .ref qt_now_goods, .ref qt_now_stick, .ref qt_now_kicks, .ref qt_now_kickCount, .ref qt_now_low, .ref qt_now_high, .ref qt_now_price, .ref qt_now_wired, .int it_now_lost, .int it_now_stamps, .int it_now_sales, .int it_now_damp, .int it_now_worn, .int it_now_seed])), (qt_now_price, .inl (cI, 5, .inl ft_now_price)), (qt_now_wired, .inl (cI, 5, .inl ft_now_wired))] H → va_S A s.heap H locs → lv_has ls 4 [(1, .int e1)] → W p l e ({ frames := 1, cells := 0, slots := 0, locals := 21 } : Room) s m args below meth c H locs 0 0 Z (F0 m 46 ls [])) → W p l e ({ frames := 1, cells := 0, slots := 0, locals := 21 } : Room) s m args below meth c H locs 0 0 Z (F0 m 6 ls []) := by
    intro k
    induction k with
    | zero =>
      intro x1 x2 x3 H locs ls o h
      exact nomatch (show (none : Option (Int32)) = some o from h)
    | succ k ih =>
      intro x1 x2 x3 H locs ls o h hP hS hl K
      rw [fX7_cheats_L6_s] at h
      refine lv_iload_n hx hb dX7_cheats_6 rfl (lv_at hl 3 rfl) ?_
      refine lv_aload_n hx hb dX7_cheats_7 rfl (lv_at hl 0 rfl) ?_
      refine va_get (ci := 7) (v := .ref qt_plan) (C := RX7) (T := TX7) (N := 11) hx hb hts hiX7 hown hK hP 0 rfl rfl 8 (by decide) fl64 (fun _ h9 => h9) rfl dX7_cheats_8 ?_
      refine va_getN (ci := 1) (v := .int it_plan_columns) (C := RX1) (T := TX1) (N := 9) hx hb hts hiX1 hown hK hP 1 rfl rfl 7 (by decide) fl104 (fun _ h9 => h9) rfl dX7_cheats_11 ?_
      refine lv_icmp_ge (tgt := 46) hx hb dX7_cheats_14 (by decide) (fun c1 => ?_) (fun c1 => ?_)
      · have h := if_t c1 h
        exact K x1 (Option.some.inj h) _ _ _ hP hS (lv_sub hl [1] rfl)
      · have h := if_f c1 h
        refine lv_aload_n hx hb dX7_cheats_17 rfl (lv_at hl 0 rfl) ?_
        refine va_get (ci := 7) (v := .ref qt_now) (C := RX7) (T := TX7) (N := 11) hx hb hts hiX7 hown hK hP 0 rfl rfl 9 (by decide) fl68 (fun _ h9 => h9) rfl dX7_cheats_18 ?_
        refine lv_iload_n hx hb dX7_cheats_21 rfl (lv_at hl 3 rfl) ?_
        obtain ⟨r2, hc3, h⟩ := bd_el h
        refine callVI (rest := []) ⟨hx, hb, hml, hown, hts⟩ (ctX4_cheatOf l D cI cZ cB cS kK kV _ qt_now qt_now_tube qt_now_goods qt_now_stick qt_now_kicks qt_now_kickCount qt_now_low qt_now_high qt_now_price qt_now_wired it_now_lost it_now_stamps it_now_sales it_now_damp it_now_worn it_now_seed ft_now_price ft_now_wired x3 N r2 hc3) (cwV 1 hts gX7_cheats_X4_cheatOf rfl rfl rfl hdX4_cheatOf ⟨Nat.le_of_ble_eq_true rfl, Nat.le_of_ble_eq_true rfl⟩) hK hN hX hP (dF hD rfl) hS hA [2, 3, 4] rfl (by decide +kernel) [(qt, .inr (7, [.ref qt_text, .ref qt_reader, .ref qt_images, .ref qt_kept, .ref qt_buyers, .ref qt_tries, .ref qt_trial, .ref qt_row, .ref qt_plan, .ref qt_now, .int it_faultAt])), (qt_plan, .inr (1, [.ref qt_plan_value, .ref qt_plan_weight, .ref qt_plan_slugWeight, .ref qt_plan_rhythm, .ref qt_plan_rhythmLength, .ref qt_plan_paidBy, .int it_plan_kinds, .int it_plan_columns, .int it_plan_slugs])), (qt_now, .inr (4, [.ref qt_now_tube, .ref qt_now_goods, .ref qt_now_stick, .ref qt_now_kicks, .ref qt_now_kickCount, .ref qt_now_low, .ref qt_now_high, .ref qt_now_price, .ref qt_now_wired, .int it_now_lost, .int it_now_stamps, .int it_now_sales, .int it_now_damp, .int it_now_worn, .int it_now_seed])), (qt_now_price, .inl (cI, 5, .inl ft_now_price)), (qt_now_wired, .inl (cI, 5, .inl ft_now_wired))] [0, 1] rfl rfl 5 rfl (by decide +kernel) (va_recv hK hP (ci := 4) (q0 := 2) rfl rfl) rfl hl.1 rfl (Nat.le_of_ble_eq_true rfl) ⟨Nat.zero_le _, Nat.zero_le _⟩ dX7_cheats_22 (fun H locs hP hS => ?_)
        refine lv_iload_n hx hb dX7_cheats_25 rfl (lv_at hl 2 rfl) ?_
        refine lv_icmp_le (tgt := 40) hx hb dX7_cheats_26 (by decide) (fun c4 => ?_) (fun c4 => ?_)
        · have h := if_t c4 h
          obtain ⟨n5, en5⟩ : ∃ z : Int32, z = x3 + 1 := ⟨_, rfl⟩
          have h := lt_at en5 h
          refine lv_iinc (v := n5) (lv' := [(3, .int n5), (0, .ref qt), (1, .int x1), (2, .int x2)]) hx hb dX7_cheats_40 hl (k := 3) rfl (by rw [en5]; rfl) (by decide) rfl (fun ls hl => ?_)
          refine lv_goto (tgt := 6) hx hb dX7_cheats_43 (by decide) ?_
          exact ih x1 x2 n5 _ _ _ o h hP hS (lv_sub hl [1, 2, 3, 0] rfl) K
        · have h := if_f c4 h
          refine lv_aload_n hx hb dX7_cheats_29 rfl (lv_at hl 0 rfl) ?_
          refine va_get (ci := 7) (v := .ref qt_now) (C := RX7) (T := TX7) (N := 11) hx hb hts hiX7 hown hK hP 0 rfl rfl 9 (by decide) fl68 (fun _ h9 => h9) rfl dX7_cheats_30 ?_
          refine lv_iload_n hx hb dX7_cheats_33 rfl (lv_at hl 3 rfl) ?_
          obtain ⟨r6, hc7, h⟩ := bd_el h
          refine callVI (rest := []) ⟨hx, hb, hml, hown, hts⟩ (ctX4_cheatOf l D cI cZ cB cS kK kV _ qt_now qt_now_tube qt_now_goods qt_now_stick qt_now_kicks qt_now_kickCount qt_now_low qt_now_high qt_now_price qt_now_wired it_now_lost it_now_stamps it_now_sales it_now_damp it_now_worn it_now_seed ft_now_price ft_now_wired x3 N r6 hc7) (cwV 1 hts gX7_cheats_X4_cheatOf rfl rfl rfl hdX4_cheatOf ⟨Nat.le_of_ble_eq_true rfl, Nat.le_of_ble_eq_true rfl⟩) hK hN hX hP (dF hD rfl) hS hA [2, 3, 4] rfl (by decide +kernel) [(qt, .inr (7, [.ref qt_text, .ref qt_reader, .ref qt_images, .ref qt_kept, .ref qt_buyers, .ref qt_tries, .ref qt_trial, .ref qt_row, .ref qt_plan, .ref qt_now, .int it_faultAt])), (qt_plan, .inr (1, [.ref qt_plan_value, .ref qt_plan_weight, .ref qt_plan_slugWeight, .ref qt_plan_rhythm, .ref qt_plan_rhythmLength, .ref qt_plan_paidBy, .int it_plan_kinds, .int it_plan_columns, .int it_plan_slugs])), (qt_now, .inr (4, [.ref qt_now_tube, .ref qt_now_goods, .ref qt_now_stick, .ref qt_now_kicks, .ref qt_now_kickCount, .ref qt_now_low, .ref qt_now_high, .ref qt_now_price, .ref qt_now_wired, .int it_now_lost, .int it_now_stamps, .int it_now_sales, .int it_now_damp, .int it_now_worn, .int it_now_seed])), (qt_now_price, .inl (cI, 5, .inl ft_now_price)), (qt_now_wired, .inl (cI, 5, .inl ft_now_wired))] [0, 1] rfl rfl 5 rfl (by decide +kernel) (va_recv hK hP (ci := 4) (q0 := 2) rfl rfl) rfl hl.1 rfl (Nat.le_of_ble_eq_true rfl) ⟨Nat.zero_le _, Nat.zero_le _⟩ dX7_cheats_34 (fun H locs hP hS => ?_)
          refine lv_istore_n (lv' := [(2, .int r6), (0, .ref qt), (1, .int x1), (3, .int x3)]) hx hb dX7_cheats_37 rfl hl (by decide) rfl (fun ls hl => ?_)
          refine lv_iload_n hx hb dX7_cheats_38 rfl (lv_at hl 3 rfl) ?_
          refine lv_istore_n (lv' := [(1, .int x3), (2, .int r6), (0, .ref qt), (3, .int x3)]) hx hb dX7_cheats_39 rfl hl (by decide) rfl (fun ls hl => ?_)
          obtain ⟨n8, en8⟩ : ∃ z : Int32, z = x3 + 1 := ⟨_, rfl⟩
          have h := lt_at en8 h
          refine lv_iinc (v := n8) (lv' := [(3, .int n8), (1, .int x3), (2, .int r6), (0, .ref qt)]) hx hb dX7_cheats_40 hl (k := 3) rfl (by rw [en8]; rfl) (by decide) rfl (fun ls hl => ?_)
          refine lv_goto (tgt := 6) hx hb dX7_cheats_43 (by decide) ?_
          exact ih x3 r6 n8 _ _ _ o h hP hS (lv_sub hl [3, 1, 2, 0] rfl) K
  unfold fX7_cheats at h
  refine lv_iconst (v := (-1)) hx hb dX7_cheats_0 (by decide) ?_
  refine lv_istore_n (lv' := [(1, .int (-1)), (0, .ref qt)]) hx hb dX7_cheats_1 rfl hl (by decide) rfl (fun ls hl => ?_)
  refine lv_iconst (v := 0) hx hb dX7_cheats_2 (by decide) ?_
  refine lv_istore_n (lv' := [(2, .int 0), (1, .int (-1)), (0, .ref qt)]) hx hb dX7_cheats_3 rfl hl (by decide) rfl (fun ls hl => ?_)
  refine lv_iconst (v := 0) hx hb dX7_cheats_4 (by decide) ?_
  refine lv_istore_n (lv' := [(3, .int 0), (2, .int 0), (1, .int (-1)), (0, .ref qt)]) hx hb dX7_cheats_5 rfl hl (by decide) rfl (fun ls hl => ?_)
  obtain ⟨o9, ho9, h⟩ := bd_el h
  refine lp6 N (-1) 0 0 _ _ _ o9 ho9 hP hS (lv_sub hl [3, 2, 1, 0] rfl) (fun n10 eo H locs ls hP hS hl => ?_)
  subst eo
  refine lv_iload_n hx hb dX7_cheats_46 rfl (lv_at hl 0 rfl) ?_
  cases h
  exact hret _ _ _ _ hP hS rfl dX7_cheats_47
theorem hdX7_cheats : yX7_cheats.cls = RX7 ∧ yX7_cheats.cls ≠ "java/lang/invoke/MethodHandle" ∧ yX7_cheats.cls ≠ "java/lang/invoke/VarHandle" ∧ (parseMethodDescriptor yX7_cheats.desc).map (fun d => d.parameters.length) = some 0 := by decide +kernel

def fX7_attempt (N : Nat) (it_tries_count : Int32) (ft_tries_row : Nat → Int32) (ft_tries_length : Nat → Int32) (ft_tries_free : Nat → Int32) (x1 : Int32) (x2 : Int32) (x3 : Int32) : Option (Int32 × Int32 × (Nat → Int32) × (Nat → Int32) × (Nat → Int32)) := (if x2 < 1 then some ((-1000000002), it_tries_count, ft_tries_row, ft_tries_length, ft_tries_free) else (if 8 < x2 then some ((-1000000002), it_tries_count, ft_tries_row, ft_tries_length, ft_tries_free) else (if x1 < 0 then some ((-1000000002), it_tries_count, ft_tries_row, ft_tries_length, ft_tries_free) else (if x1 < (1 <<< (x2 &&& 31)) then bd (fX6_add N it_tries_count ft_tries_row ft_tries_length ft_tries_free x1 x2 x3) fun (r5, g6, g7, g8, g9) => (if r5 = 0 then some ((-1000000004), g6, g7, g8, g9) else some (g6, g6, g7, g8, g9)) else some ((-1000000002), it_tries_count, ft_tries_row, ft_tries_length, ft_tries_free)))))
set_option maxHeartbeats 4000000 in
set_option maxRecDepth 100000 in
theorem ctX7_attempt (l : Launch) (D : va_G) (cI cZ cB cS : ClassId) (kK kV : Nat → Nat) (sz : Nat) (qt qt_text qt_reader qt_images qt_kept qt_buyers qt_tries qt_trial qt_row qt_plan qt_now qt_tries_row qt_tries_length qt_tries_free : Nat) (it_faultAt : Int32) (it_tries_count : Int32) (ft_tries_row : Nat → Int32) (ft_tries_length : Nat → Int32) (ft_tries_free : Nat → Int32) (x1 : Int32) (x2 : Int32) (x3 : Int32) (N : Nat) (r0 : Int32) (w_it_tries_count : Int32) (w_ft_tries_row : Nat → Int32) (w_ft_tries_length : Nat → Int32) (w_ft_tries_free : Nat → Int32) (h : fX7_attempt N it_tries_count ft_tries_row ft_tries_length ft_tries_free x1 x2 x3 = some (r0, w_it_tries_count, w_ft_tries_row, w_ft_tries_length, w_ft_tries_free)) : CtI l yX7_attempt wsX7_attempt { frames := 1, cells := 0, slots := 0, locals := 23 } D (TY cI cZ cB cS) kK kV [.ref qt, .int x1, .int x2, .int x3] [(qt, .inr (7, [.ref qt_text, .ref qt_reader, .ref qt_images, .ref qt_kept, .ref qt_buyers, .ref qt_tries, .ref qt_trial, .ref qt_row, .ref qt_plan, .ref qt_now, .int it_faultAt])), (qt_tries, .inr (6, [.ref qt_tries_row, .ref qt_tries_length, .ref qt_tries_free, .int it_tries_count])), (qt_tries_row, .inl (cI, 10, .inl ft_tries_row)), (qt_tries_length, .inl (cI, 10, .inl ft_tries_length)), (qt_tries_free, .inl (cZ, 10, .inl ft_tries_free))] [(qt, .inr (7, [.ref qt_text, .ref qt_reader, .ref qt_images, .ref qt_kept, .ref qt_buyers, .ref qt_tries, .ref qt_trial, .ref qt_row, .ref qt_plan, .ref qt_now, .int it_faultAt])), (qt_tries, .inr (6, [.ref qt_tries_row, .ref qt_tries_length, .ref qt_tries_free, .int w_it_tries_count])), (qt_tries_row, .inl (cI, 10, .inl w_ft_tries_row)), (qt_tries_length, .inl (cI, 10, .inl w_ft_tries_length)), (qt_tries_free, .inl (cZ, 10, .inl w_ft_tries_free))] sz r0 := by
  refine mkI (cc := cX7_attempt) (maxL := 4) (rt := .int) (own := RX7) (by decide) rfl rfl (Nat.le_of_ble_eq_true rfl) ?_
  intro p e s m args below meth c A Z ls hx hb hml hown hts hK hN hX hP hD hA hS hret hl
  have hl : lv_has ls 4 [(0, .ref qt), (1, .int x1), (2, .int x2), (3, .int x3)] := hl
  have cn75 : (Cond.constant RX7 75 (-1000000002)).before args s = true := hts _ (List.mem_of_getElem? (l := wsX7_attempt) (i := 1) rfl)
  have fl45 : (Cond.fieldLink RX7 45 "SoupWall" "tries" "LSoupWall$Tries;").before args s = true := hts _ (List.mem_of_getElem? (l := wsX7_attempt) (i := 2) rfl)
  have hiX7 : ∀ w ∈ wsX70, w ∈ wsX7_attempt := fun w h => List.mem_cons_of_mem _ (List.mem_append_left _ (List.mem_append_right _ h))
  have cn79 : (Cond.constant RX7 79 (-1000000004)).before args s = true := hts _ (List.mem_of_getElem? (l := wsX7_attempt) (i := 3) rfl)
  have fl103 : (Cond.fieldLinkNest "SoupWall" 103 "SoupWall$Tries" "count" "I" "SoupWall").before args s = true := hN.f 45 rfl
  have hiX6 : ∀ w ∈ wsX60, w ∈ wsX7_attempt := fun w h => List.mem_cons_of_mem _ (List.mem_append_right _ h)
  unfold fX7_attempt at h
  refine lv_iload_n hx hb dX7_attempt_0 rfl (lv_at hl 2 rfl) ?_
  refine lv_iconst (v := 1) hx hb dX7_attempt_1 (by decide) ?_
  refine lv_icmp_lt (tgt := 22) hx hb dX7_attempt_2 (by decide) (fun c1 => ?_) (fun c1 => ?_)
  · have h := if_t c1 h
    refine lv_ldc (v := (-1000000002)) hx hb hown cn75 dX7_attempt_22 ?_
    cases h
    exact hret _ _ _ _ hP hS rfl dX7_attempt_24
  · have h := if_f c1 h
    refine lv_iload_n hx hb dX7_attempt_5 rfl (lv_at hl 2 rfl) ?_
    refine lv_bipush (v := 8) hx hb dX7_attempt_6 (by decide) ?_
    refine lv_icmp_gt (tgt := 22) hx hb dX7_attempt_8 (by decide) (fun c2 => ?_) (fun c2 => ?_)
    · have h := if_t c2 h
      refine lv_ldc (v := (-1000000002)) hx hb hown cn75 dX7_attempt_22 ?_
      cases h
      exact hret _ _ _ _ hP hS rfl dX7_attempt_24
    · have h := if_f c2 h
      refine lv_iload_n hx hb dX7_attempt_11 rfl (lv_at hl 1 rfl) ?_
      refine lv_if_lt (tgt := 22) hx hb dX7_attempt_12 (by decide) (fun c3 => ?_) (fun c3 => ?_)
      · have h := if_t c3 h
        refine lv_ldc (v := (-1000000002)) hx hb hown cn75 dX7_attempt_22 ?_
        cases h
        exact hret _ _ _ _ hP hS rfl dX7_attempt_24
      · have h := if_f c3 h
        refine lv_iload_n hx hb dX7_attempt_15 rfl (lv_at hl 1 rfl) ?_
        refine lv_iconst (v := 1) hx hb dX7_attempt_16 (by decide) ?_
        refine lv_iload_n hx hb dX7_attempt_17 rfl (lv_at hl 2 rfl) ?_
        refine lv_ishl hx hb dX7_attempt_18 ?_
        refine lv_icmp_lt (tgt := 25) hx hb dX7_attempt_19 (by decide) (fun c4 => ?_) (fun c4 => ?_)
        · have h := if_t c4 h
          refine lv_aload_n hx hb dX7_attempt_25 rfl (lv_at hl 0 rfl) ?_
          refine va_get (ci := 7) (v := .ref qt_tries) (C := RX7) (T := TX7) (N := 11) hx hb hts hiX7 hown hK hP 0 rfl rfl 5 (by decide) fl45 (fun _ h9 => h9) rfl dX7_attempt_26 ?_
          refine lv_iload_n hx hb dX7_attempt_29 rfl (lv_at hl 1 rfl) ?_
          refine lv_iload_n hx hb dX7_attempt_30 rfl (lv_at hl 2 rfl) ?_
          refine lv_iload_n hx hb dX7_attempt_31 rfl (lv_at hl 3 rfl) ?_
          obtain ⟨⟨r5, g6, g7, g8, g9⟩, hc10, h⟩ := bd_el h
          refine callVI (rest := []) ⟨hx, hb, hml, hown, hts⟩ (ctX6_add l D cI cZ cB cS kK kV _ qt_tries qt_tries_row qt_tries_length qt_tries_free it_tries_count ft_tries_row ft_tries_length ft_tries_free x1 x2 x3 N r5 g6 g7 g8 g9 hc10) (cwV 3 hts gX7_attempt_X6_add rfl rfl rfl hdX6_add ⟨Nat.le_of_ble_eq_true rfl, Nat.le_of_ble_eq_true rfl⟩) hK hN hX hP (dF hD rfl) hS hA [1, 2, 3, 4] rfl (by decide +kernel) [(qt, .inr (7, [.ref qt_text, .ref qt_reader, .ref qt_images, .ref qt_kept, .ref qt_buyers, .ref qt_tries, .ref qt_trial, .ref qt_row, .ref qt_plan, .ref qt_now, .int it_faultAt])), (qt_tries, .inr (6, [.ref qt_tries_row, .ref qt_tries_length, .ref qt_tries_free, .int g6])), (qt_tries_row, .inl (cI, 10, .inl g7)), (qt_tries_length, .inl (cI, 10, .inl g8)), (qt_tries_free, .inl (cZ, 10, .inl g9))] [0] rfl rfl 5 rfl (by decide +kernel) (va_recv hK hP (ci := 6) (q0 := 1) rfl rfl) rfl hl.1 rfl (Nat.le_of_ble_eq_true rfl) ⟨Nat.zero_le _, Nat.zero_le _⟩ dX7_attempt_32 (fun H locs hP hS => ?_)
          refine lv_if_eq (tgt := 48) hx hb dX7_attempt_35 (by decide) (fun c11 => ?_) (fun c11 => ?_)
          · have h := if_t c11 h
            refine lv_ldc (v := (-1000000004)) hx hb hown cn79 dX7_attempt_48 ?_
            cases h
            exact hret _ _ _ _ hP hS rfl dX7_attempt_50
          · have h := if_f c11 h
            refine lv_aload_n hx hb dX7_attempt_38 rfl (lv_at hl 0 rfl) ?_
            refine va_get (ci := 7) (v := .ref qt_tries) (C := RX7) (T := TX7) (N := 11) hx hb hts hiX7 hown hK hP 0 rfl rfl 5 (by decide) fl45 (fun _ h9 => h9) rfl dX7_attempt_39 ?_
            refine va_getN (ci := 6) (v := .int g6) (C := RX6) (T := TX6) (N := 4) hx hb hts hiX6 hown hK hP 1 rfl rfl 3 (by decide) fl103 (fun _ h9 => h9) rfl dX7_attempt_42 ?_
            refine lv_goto (tgt := 50) hx hb dX7_attempt_45 (by decide) ?_
            cases h
            exact hret _ _ _ _ hP hS rfl dX7_attempt_50
        · have h := if_f c4 h
          refine lv_ldc (v := (-1000000002)) hx hb hown cn75 dX7_attempt_22 ?_
          cases h
          exact hret _ _ _ _ hP hS rfl dX7_attempt_24
theorem hdX7_attempt : yX7_attempt.cls = RX7 ∧ yX7_attempt.cls ≠ "java/lang/invoke/MethodHandle" ∧ yX7_attempt.cls ≠ "java/lang/invoke/VarHandle" ∧ (parseMethodDescriptor yX7_attempt.desc).map (fun d => d.parameters.length) = some 3 := by decide +kernel

def fX7_fits_L19 (N : Nat) : Nat → Int32 → Int32 → Int32 → Int32 → Int32 → (Nat → Int32) → (Nat → Int32) → (Nat → Int32) → Option ((Int32) ⊕ (Int32))
  | 0, _, _, _, _, _, _, _, _ => none
  | k + 1, x1, x2, x3, x4, it_tries_count, ft_tries_free, ft_tries_length, ft_tries_row => (if (1 <<< (x1 &&& 31)) ≤ x4 then some (.inl x3) else bd (fX6_allow N it_tries_count ft_tries_free ft_tries_length ft_tries_row x4 x1) fun r2 => (if r2 = 0 then lt (x4 + 1) fun n5 => fX7_fits_L19 N k x1 x2 x3 n5 it_tries_count ft_tries_free ft_tries_length ft_tries_row else (if x3 = x2 then some (.inr x4) else lt (x3 + 1) fun n7 => lt (x4 + 1) fun n8 => fX7_fits_L19 N k x1 x2 n7 n8 it_tries_count ft_tries_free ft_tries_length ft_tries_row)))
theorem fX7_fits_L19_s (N : Nat) (k : Nat) (x1 : Int32) (x2 : Int32) (x3 : Int32) (x4 : Int32) (it_tries_count : Int32) (ft_tries_free : Nat → Int32) (ft_tries_length : Nat → Int32) (ft_tries_row : Nat → Int32) : fX7_fits_L19 N (k + 1) x1 x2 x3 x4 it_tries_count ft_tries_free ft_tries_length ft_tries_row = ((if (1 <<< (x1 &&& 31)) ≤ x4 then some (.inl x3) else bd (fX6_allow N it_tries_count ft_tries_free ft_tries_length ft_tries_row x4 x1) fun r2 => (if r2 = 0 then lt (x4 + 1) fun n5 => fX7_fits_L19 N k x1 x2 x3 n5 it_tries_count ft_tries_free ft_tries_length ft_tries_row else (if x3 = x2 then some (.inr x4) else lt (x3 + 1) fun n7 => lt (x4 + 1) fun n8 => fX7_fits_L19 N k x1 x2 n7 n8 it_tries_count ft_tries_free ft_tries_length ft_tries_row)))) := rfl
def fX7_fits (N : Nat) (it_tries_count : Int32) (ft_tries_free : Nat → Int32) (ft_tries_length : Nat → Int32) (ft_tries_row : Nat → Int32) (x1 : Int32) (x2 : Int32) : Option (Int32) := (if x1 < 1 then some (-1000000002) else (if x1 ≤ 6 then bd (fX7_fits_L19 N N x1 x2 0 0 it_tries_count ft_tries_free ft_tries_length ft_tries_row) fun o => match o with | .inr rr => some rr | .inl n12 => (if x2 = (-1) then some n12 else some (-1)) else some (-1000000002)))
set_option maxHeartbeats 4000000 in
set_option maxRecDepth 100000 in
theorem ctX7_fits (l : Launch) (D : va_G) (cI cZ cB cS : ClassId) (kK kV : Nat → Nat) (sz : Nat) (qt qt_text qt_reader qt_images qt_kept qt_buyers qt_tries qt_trial qt_row qt_plan qt_now qt_tries_row qt_tries_length qt_tries_free : Nat) (it_faultAt : Int32) (it_tries_count : Int32) (ft_tries_free : Nat → Int32) (ft_tries_length : Nat → Int32) (ft_tries_row : Nat → Int32) (x1 : Int32) (x2 : Int32) (N : Nat) (r0 : Int32)  (h : fX7_fits N it_tries_count ft_tries_free ft_tries_length ft_tries_row x1 x2 = some r0) : CtI l yX7_fits wsX7_fits { frames := 2, cells := 0, slots := 0, locals := 49 } D (TY cI cZ cB cS) kK kV [.ref qt, .int x1, .int x2] [(qt, .inr (7, [.ref qt_text, .ref qt_reader, .ref qt_images, .ref qt_kept, .ref qt_buyers, .ref qt_tries, .ref qt_trial, .ref qt_row, .ref qt_plan, .ref qt_now, .int it_faultAt])), (qt_tries, .inr (6, [.ref qt_tries_row, .ref qt_tries_length, .ref qt_tries_free, .int it_tries_count])), (qt_tries_free, .inl (cZ, 10, .inl ft_tries_free)), (qt_tries_length, .inl (cI, 10, .inl ft_tries_length)), (qt_tries_row, .inl (cI, 10, .inl ft_tries_row))] [(qt, .inr (7, [.ref qt_text, .ref qt_reader, .ref qt_images, .ref qt_kept, .ref qt_buyers, .ref qt_tries, .ref qt_trial, .ref qt_row, .ref qt_plan, .ref qt_now, .int it_faultAt])), (qt_tries, .inr (6, [.ref qt_tries_row, .ref qt_tries_length, .ref qt_tries_free, .int it_tries_count])), (qt_tries_free, .inl (cZ, 10, .inl ft_tries_free)), (qt_tries_length, .inl (cI, 10, .inl ft_tries_length)), (qt_tries_row, .inl (cI, 10, .inl ft_tries_row))] sz r0 := by
  refine mkI (cc := cX7_fits) (maxL := 5) (rt := .int) (own := RX7) (by decide) rfl rfl (Nat.le_of_ble_eq_true rfl) ?_
  intro p e s m args below meth c A Z ls hx hb hml hown hts hK hN hX hP hD hA hS hret hl
  have hl : lv_has ls 5 [(0, .ref qt), (1, .int x1), (2, .int x2)] := hl
  have fl45 : (Cond.fieldLink RX7 45 "SoupWall" "tries" "LSoupWall$Tries;").before args s = true := hts _ (List.mem_of_getElem? (l := wsX7_fits) (i := 2) rfl)
  have hiX7 : ∀ w ∈ wsX70, w ∈ wsX7_fits := fun w h => List.mem_cons_of_mem _ (List.mem_append_left _ (List.mem_append_right _ h))
  have cn75 : (Cond.constant RX7 75 (-1000000002)).before args s = true := hts _ (List.mem_of_getElem? (l := wsX7_fits) (i := 1) rfl)
  have lp19 : ∀ (k : Nat) (x1 : Int32) (x2 : Int32) (x3 : Int32) (x4 : Int32)  (H : Heap) (locs : List Loc) (ls : Array Slot) (o : (Int32) ⊕ (Int32)), fX7_fits_L19 N k x1 x2 x3 x4 it_tries_count ft_tries_free ft_tries_length ft_tries_row = some o → va_P D vwCl [(qt, .inr (7, [.ref qt_text, .ref qt_reader, .ref qt_images, .ref qt_kept, .ref qt_buyers, .ref qt_tries, .ref qt_trial, .ref qt_row, .ref qt_plan, .ref qt_now, .int it_faultAt])), (qt_tries, .inr (6, [.ref qt_tries_row, .ref qt_tries_length, .ref qt_tries_free, .int it_tries_count])), (qt_tries_free, .inl (cZ, 10, .inl ft_tries_free)), (qt_tries_length, .inl (cI, 10, .inl ft_tries_length)), (qt_tries_row, .inl (cI, 10, .inl ft_tries_row))] H → va_S A s.heap H locs → lv_has ls 5 [(0, .ref qt), (1, .int x1), (2, .int x2), (3, .int x3), (4, .int x4)] → (∀ rr, .inr rr = o → rr = r0) → (∀ (e3 : Int32), .inl e3 = o → ∀ (H : Heap) (locs : List Loc) (ls : Array Slot), va_P D vwCl [(qt, .inr (7, [.ref qt_text, .ref qt_reader, .ref qt_images, .ref qt_kept, .ref qt_buyers, .ref qt_tries, .ref qt_trial, .ref qt_row, .ref qt_plan, .ref qt_now, .int it_faultAt])), (qt_tries, .inr (6, [.ref qt_tries_row, .ref qt_tries_length, .ref qt_tries_free, .int it_tries_count])), (qt_tries_free, .inl (cZ, 10, .inl ft_tries_free)), (qt_tries_length, .inl (cI, 10, .inl ft_tries_length)), (qt_tries_row, .inl (cI, 10, .inl ft_tries_row))] H → va_S A s.heap H locs → lv_has ls 5 [(2, .int x2), (3, .int e3)] → W p l e ({ frames := 2, cells := 0, slots := 0, locals := 49 } : Room) s m args below meth c H locs 0 0 Z (F0 m 57 ls [])) → W p l e ({ frames := 2, cells := 0, slots := 0, locals := 49 } : Room) s m args below meth c H locs 0 0 Z (F0 m 19 ls []) := by
    intro k
    induction k with
    | zero =>
      intro x1 x2 x3 x4 H locs ls o h
      exact nomatch (show (none : Option ((Int32) ⊕ (Int32))) = some o from h)
    | succ k ih =>
      intro x1 x2 x3 x4 H locs ls o h hP hS hl KR K
      rw [fX7_fits_L19_s] at h
      refine lv_iload hx hb dX7_fits_19 (lv_at hl 4 rfl) ?_
      refine lv_iconst (v := 1) hx hb dX7_fits_21 (by decide) ?_
      refine lv_iload_n hx hb dX7_fits_22 rfl (lv_at hl 1 rfl) ?_
      refine lv_ishl hx hb dX7_fits_23 ?_
      refine lv_icmp_ge (tgt := 57) hx hb dX7_fits_24 (by decide) (fun c1 => ?_) (fun c1 => ?_)
      · have h := if_t c1 h
        exact K x3 (Option.some.inj h) _ _ _ hP hS (lv_sub hl [2, 3] rfl)
      · have h := if_f c1 h
        refine lv_aload_n hx hb dX7_fits_27 rfl (lv_at hl 0 rfl) ?_
        refine va_get (ci := 7) (v := .ref qt_tries) (C := RX7) (T := TX7) (N := 11) hx hb hts hiX7 hown hK hP 0 rfl rfl 5 (by decide) fl45 (fun _ h9 => h9) rfl dX7_fits_28 ?_
        refine lv_iload hx hb dX7_fits_31 (lv_at hl 4 rfl) ?_
        refine lv_iload_n hx hb dX7_fits_33 rfl (lv_at hl 1 rfl) ?_
        obtain ⟨r2, hc3, h⟩ := bd_el h
        refine callVI (rest := []) ⟨hx, hb, hml, hown, hts⟩ (ctX6_allow l D cI cZ cB cS kK kV _ qt_tries qt_tries_row qt_tries_length qt_tries_free it_tries_count ft_tries_free ft_tries_length ft_tries_row x4 x1 N r2 hc3) (cwV 2 hts gX7_fits_X6_allow rfl rfl rfl hdX6_allow ⟨Nat.le_of_ble_eq_true rfl, Nat.le_of_ble_eq_true rfl⟩) hK hN hX hP (dF hD rfl) hS hA [1, 2, 3, 4] rfl (by decide +kernel) [(qt, .inr (7, [.ref qt_text, .ref qt_reader, .ref qt_images, .ref qt_kept, .ref qt_buyers, .ref qt_tries, .ref qt_trial, .ref qt_row, .ref qt_plan, .ref qt_now, .int it_faultAt])), (qt_tries, .inr (6, [.ref qt_tries_row, .ref qt_tries_length, .ref qt_tries_free, .int it_tries_count])), (qt_tries_free, .inl (cZ, 10, .inl ft_tries_free)), (qt_tries_length, .inl (cI, 10, .inl ft_tries_length)), (qt_tries_row, .inl (cI, 10, .inl ft_tries_row))] [0] rfl rfl 5 rfl (by decide +kernel) (va_recv hK hP (ci := 6) (q0 := 1) rfl rfl) rfl hl.1 rfl (Nat.le_of_ble_eq_true rfl) ⟨Nat.zero_le _, Nat.zero_le _⟩ dX7_fits_34 (fun H locs hP hS => ?_)
        refine lv_if_eq (tgt := 51) hx hb dX7_fits_37 (by decide) (fun c4 => ?_) (fun c4 => ?_)
        · have h := if_t c4 h
          obtain ⟨n5, en5⟩ : ∃ z : Int32, z = x4 + 1 := ⟨_, rfl⟩
          have h := lt_at en5 h
          refine lv_iinc (v := n5) (lv' := [(4, .int n5), (0, .ref qt), (1, .int x1), (2, .int x2), (3, .int x3)]) hx hb dX7_fits_51 hl (k := 4) rfl (by rw [en5]; rfl) (by decide) rfl (fun ls hl => ?_)
          refine lv_goto (tgt := 19) hx hb dX7_fits_54 (by decide) ?_
          exact ih x1 x2 x3 n5 _ _ _ o h hP hS (lv_sub hl [1, 2, 3, 4, 0] rfl) KR K
        · have h := if_f c4 h
          refine lv_iload_n hx hb dX7_fits_40 rfl (lv_at hl 3 rfl) ?_
          refine lv_iload_n hx hb dX7_fits_41 rfl (lv_at hl 2 rfl) ?_
          refine lv_icmp_ne (tgt := 48) hx hb dX7_fits_42 (by decide) (fun c6 => ?_) (fun c6 => ?_)
          · have h := if_f c6 h
            obtain ⟨n7, en7⟩ : ∃ z : Int32, z = x3 + 1 := ⟨_, rfl⟩
            have h := lt_at en7 h
            refine lv_iinc (v := n7) (lv' := [(3, .int n7), (0, .ref qt), (1, .int x1), (2, .int x2), (4, .int x4)]) hx hb dX7_fits_48 hl (k := 3) rfl (by rw [en7]; rfl) (by decide) rfl (fun ls hl => ?_)
            obtain ⟨n8, en8⟩ : ∃ z : Int32, z = x4 + 1 := ⟨_, rfl⟩
            have h := lt_at en8 h
            refine lv_iinc (v := n8) (lv' := [(4, .int n8), (3, .int n7), (0, .ref qt), (1, .int x1), (2, .int x2)]) hx hb dX7_fits_51 hl (k := 4) rfl (by rw [en8]; rfl) (by decide) rfl (fun ls hl => ?_)
            refine lv_goto (tgt := 19) hx hb dX7_fits_54 (by decide) ?_
            exact ih x1 x2 n7 n8 _ _ _ o h hP hS (lv_sub hl [2, 3, 4, 1, 0] rfl) KR K
          · have h := if_t c6 h
            refine lv_iload hx hb dX7_fits_45 (lv_at hl 4 rfl) ?_
            have hz9 := KR _ (Option.some.inj h)
            cases hz9
            exact hret _ _ _ _ hP hS rfl dX7_fits_47
  unfold fX7_fits at h
  refine lv_iload_n hx hb dX7_fits_0 rfl (lv_at hl 1 rfl) ?_
  refine lv_iconst (v := 1) hx hb dX7_fits_1 (by decide) ?_
  refine lv_icmp_lt (tgt := 11) hx hb dX7_fits_2 (by decide) (fun c9 => ?_) (fun c9 => ?_)
  · have h := if_t c9 h
    refine lv_ldc (v := (-1000000002)) hx hb hown cn75 dX7_fits_11 ?_
    cases h
    exact hret _ _ _ _ hP hS rfl dX7_fits_13
  · have h := if_f c9 h
    refine lv_iload_n hx hb dX7_fits_5 rfl (lv_at hl 1 rfl) ?_
    refine lv_bipush (v := 6) hx hb dX7_fits_6 (by decide) ?_
    refine lv_icmp_le (tgt := 14) hx hb dX7_fits_8 (by decide) (fun c10 => ?_) (fun c10 => ?_)
    · have h := if_t c10 h
      refine lv_iconst (v := 0) hx hb dX7_fits_14 (by decide) ?_
      refine lv_istore_n (lv' := [(3, .int 0), (0, .ref qt), (1, .int x1), (2, .int x2)]) hx hb dX7_fits_15 rfl hl (by decide) rfl (fun ls hl => ?_)
      refine lv_iconst (v := 0) hx hb dX7_fits_16 (by decide) ?_
      refine lv_istore (lv' := [(4, .int 0), (3, .int 0), (0, .ref qt), (1, .int x1), (2, .int x2)]) hx hb dX7_fits_17 hl (by decide) rfl (fun ls hl => ?_)
      obtain ⟨o11, ho11, h⟩ := bd_el h
      refine lp19 N x1 x2 0 0 _ _ _ o11 ho11 hP hS (lv_sub hl [2, 3, 4, 1, 0] rfl) (fun rr er => by subst er; exact Option.some.inj h) (fun n12 eo H locs ls hP hS hl => ?_)
      subst eo
      dsimp only at h
      refine lv_iload_n hx hb dX7_fits_57 rfl (lv_at hl 0 rfl) ?_
      refine lv_iconst (v := (-1)) hx hb dX7_fits_58 (by decide) ?_
      refine lv_icmp_ne (tgt := 66) hx hb dX7_fits_59 (by decide) (fun c13 => ?_) (fun c13 => ?_)
      · have h := if_f c13 h
        refine lv_iconst (v := (-1)) hx hb dX7_fits_66 (by decide) ?_
        cases h
        exact hret _ _ _ _ hP hS rfl dX7_fits_67
      · have h := if_t c13 h
        refine lv_iload_n hx hb dX7_fits_62 rfl (lv_at hl 1 rfl) ?_
        refine lv_goto (tgt := 67) hx hb dX7_fits_63 (by decide) ?_
        cases h
        exact hret _ _ _ _ hP hS rfl dX7_fits_67
    · have h := if_f c10 h
      refine lv_ldc (v := (-1000000002)) hx hb hown cn75 dX7_fits_11 ?_
      cases h
      exact hret _ _ _ _ hP hS rfl dX7_fits_13
theorem hdX7_fits : yX7_fits.cls = RX7 ∧ yX7_fits.cls ≠ "java/lang/invoke/MethodHandle" ∧ yX7_fits.cls ≠ "java/lang/invoke/VarHandle" ∧ (parseMethodDescriptor yX7_fits.desc).map (fun d => d.parameters.length) = some 2 := by decide +kernel

def fX7_tear (N : Nat) (it_buyers_count : Int32) (it_tries_count : Int32) : Option (Int32 × Int32 × Int32) := lt (it_buyers_count + it_tries_count) fun n1 => some (n1, 0, 0)
set_option maxHeartbeats 4000000 in
set_option maxRecDepth 100000 in
theorem ctX7_tear (l : Launch) (D : va_G) (cI cZ cB cS : ClassId) (kK kV : Nat → Nat) (sz : Nat) (qt qt_text qt_reader qt_images qt_kept qt_buyers qt_tries qt_trial qt_row qt_plan qt_now qt_buyers_column qt_buyers_kind qt_buyers_coins qt_tries_row qt_tries_length qt_tries_free : Nat) (it_faultAt : Int32) (it_buyers_count : Int32) (it_tries_count : Int32)  (N : Nat) (r0 : Int32) (w_it_buyers_count : Int32) (w_it_tries_count : Int32) (h : fX7_tear N it_buyers_count it_tries_count = some (r0, w_it_buyers_count, w_it_tries_count)) : CtI l yX7_tear wsX7_tear { frames := 0, cells := 0, slots := 0, locals := 0 } D (TY cI cZ cB cS) kK kV [.ref qt] [(qt, .inr (7, [.ref qt_text, .ref qt_reader, .ref qt_images, .ref qt_kept, .ref qt_buyers, .ref qt_tries, .ref qt_trial, .ref qt_row, .ref qt_plan, .ref qt_now, .int it_faultAt])), (qt_buyers, .inr (0, [.ref qt_buyers_column, .ref qt_buyers_kind, .ref qt_buyers_coins, .int it_buyers_count])), (qt_tries, .inr (6, [.ref qt_tries_row, .ref qt_tries_length, .ref qt_tries_free, .int it_tries_count]))] [(qt, .inr (7, [.ref qt_text, .ref qt_reader, .ref qt_images, .ref qt_kept, .ref qt_buyers, .ref qt_tries, .ref qt_trial, .ref qt_row, .ref qt_plan, .ref qt_now, .int it_faultAt])), (qt_buyers, .inr (0, [.ref qt_buyers_column, .ref qt_buyers_kind, .ref qt_buyers_coins, .int w_it_buyers_count])), (qt_tries, .inr (6, [.ref qt_tries_row, .ref qt_tries_length, .ref qt_tries_free, .int w_it_tries_count]))] sz r0 := by
  refine mkI (cc := cX7_tear) (maxL := 2) (rt := .int) (own := RX7) (by decide) rfl rfl (Nat.le_of_ble_eq_true rfl) ?_
  intro p e s m args below meth c A Z ls hx hb hml hown hts hK hN hX hP hD hA hS hret hl
  have hl : lv_has ls 2 [(0, .ref qt)] := hl
  have fl38 : (Cond.fieldLink RX7 38 "SoupWall" "buyers" "LSoupWall$Buyers;").before args s = true := hts _ (List.mem_of_getElem? (l := wsX7_tear) (i := 1) rfl)
  have hiX7 : ∀ w ∈ wsX70, w ∈ wsX7_tear := fun w h => List.mem_cons_of_mem _ (List.mem_append_left _ (List.mem_append_left _ (List.mem_append_right _ h)))
  have fl100 : (Cond.fieldLinkNest "SoupWall" 100 "SoupWall$Buyers" "count" "I" "SoupWall").before args s = true := hN.f 44 rfl
  have hiX0 : ∀ w ∈ wsX00, w ∈ wsX7_tear := fun w h => List.mem_cons_of_mem _ (List.mem_append_left _ (List.mem_append_right _ h))
  have fl45 : (Cond.fieldLink RX7 45 "SoupWall" "tries" "LSoupWall$Tries;").before args s = true := hts _ (List.mem_of_getElem? (l := wsX7_tear) (i := 2) rfl)
  have fl103 : (Cond.fieldLinkNest "SoupWall" 103 "SoupWall$Tries" "count" "I" "SoupWall").before args s = true := hN.f 45 rfl
  have hiX6 : ∀ w ∈ wsX60, w ∈ wsX7_tear := fun w h => List.mem_cons_of_mem _ (List.mem_append_right _ h)
  unfold fX7_tear at h
  refine lv_aload_n hx hb dX7_tear_0 rfl (lv_at hl 0 rfl) ?_
  refine va_get (ci := 7) (v := .ref qt_buyers) (C := RX7) (T := TX7) (N := 11) hx hb hts hiX7 hown hK hP 0 rfl rfl 4 (by decide) fl38 (fun _ h9 => h9) rfl dX7_tear_1 ?_
  refine va_getN (ci := 0) (v := .int it_buyers_count) (C := RX0) (T := TX0) (N := 4) hx hb hts hiX0 hown hK hP 1 rfl rfl 3 (by decide) fl100 (fun _ h9 => h9) rfl dX7_tear_4 ?_
  refine lv_aload_n hx hb dX7_tear_7 rfl (lv_at hl 0 rfl) ?_
  refine va_get (ci := 7) (v := .ref qt_tries) (C := RX7) (T := TX7) (N := 11) hx hb hts hiX7 hown hK hP 0 rfl rfl 5 (by decide) fl45 (fun _ h9 => h9) rfl dX7_tear_8 ?_
  refine va_getN (ci := 6) (v := .int it_tries_count) (C := RX6) (T := TX6) (N := 4) hx hb hts hiX6 hown hK hP 2 rfl rfl 3 (by decide) fl103 (fun _ h9 => h9) rfl dX7_tear_11 ?_
  refine lv_iadd hx hb dX7_tear_14 ?_
  refine lv_topi (fun n1 en1 => ?_)
  have h := lt_at en1 h
  refine lv_istore_n (lv' := [(1, .int n1), (0, .ref qt)]) hx hb dX7_tear_15 rfl hl (by decide) rfl (fun ls hl => ?_)
  refine lv_aload_n hx hb dX7_tear_16 rfl (lv_at hl 1 rfl) ?_
  refine va_get (ci := 7) (v := .ref qt_buyers) (C := RX7) (T := TX7) (N := 11) hx hb hts hiX7 hown hK hP 0 rfl rfl 4 (by decide) fl38 (fun _ h9 => h9) rfl dX7_tear_17 ?_
  refine lv_iconst (v := 0) hx hb dX7_tear_20 (by decide) ?_
  refine va_putN (ci := 0) (v := .int 0) (ty := .int) (C := RX0) (T := TX0) (N := 4) hx hb hts hiX0 tyX0 tyX0_ok nmX0 hown hK hP (dF hD rfl) hS 1 rfl rfl 3 (by decide) fl100 (fun _ h9 => h9) rfl (by decide +kernel) rfl rfl (Nat.le_of_ble_eq_true rfl) dX7_tear_21 (fun H locs hP _ hS => ?_)
  have hP : va_P D vwCl [(qt, .inr (7, [.ref qt_text, .ref qt_reader, .ref qt_images, .ref qt_kept, .ref qt_buyers, .ref qt_tries, .ref qt_trial, .ref qt_row, .ref qt_plan, .ref qt_now, .int it_faultAt])), (qt_buyers, .inr (0, [.ref qt_buyers_column, .ref qt_buyers_kind, .ref qt_buyers_coins, .int 0])), (qt_tries, .inr (6, [.ref qt_tries_row, .ref qt_tries_length, .ref qt_tries_free, .int it_tries_count]))] H := hP
  refine lv_aload_n hx hb dX7_tear_24 rfl (lv_at hl 1 rfl) ?_
  refine va_get (ci := 7) (v := .ref qt_tries) (C := RX7) (T := TX7) (N := 11) hx hb hts hiX7 hown hK hP 0 rfl rfl 5 (by decide) fl45 (fun _ h9 => h9) rfl dX7_tear_25 ?_
  refine lv_iconst (v := 0) hx hb dX7_tear_28 (by decide) ?_
  refine va_putN (ci := 6) (v := .int 0) (ty := .int) (C := RX6) (T := TX6) (N := 4) hx hb hts hiX6 tyX6 tyX6_ok nmX6 hown hK hP (dF hD rfl) hS 2 rfl rfl 3 (by decide) fl103 (fun _ h9 => h9) rfl (by decide +kernel) rfl rfl (Nat.le_of_ble_eq_true rfl) dX7_tear_29 (fun H locs hP _ hS => ?_)
  have hP : va_P D vwCl [(qt, .inr (7, [.ref qt_text, .ref qt_reader, .ref qt_images, .ref qt_kept, .ref qt_buyers, .ref qt_tries, .ref qt_trial, .ref qt_row, .ref qt_plan, .ref qt_now, .int it_faultAt])), (qt_buyers, .inr (0, [.ref qt_buyers_column, .ref qt_buyers_kind, .ref qt_buyers_coins, .int 0])), (qt_tries, .inr (6, [.ref qt_tries_row, .ref qt_tries_length, .ref qt_tries_free, .int 0]))] H := hP
  refine lv_iload_n hx hb dX7_tear_32 rfl (lv_at hl 0 rfl) ?_
  cases h
  exact hret _ _ _ _ hP hS rfl dX7_tear_33
theorem hdX7_tear : yX7_tear.cls = RX7 ∧ yX7_tear.cls ≠ "java/lang/invoke/MethodHandle" ∧ yX7_tear.cls ≠ "java/lang/invoke/VarHandle" ∧ (parseMethodDescriptor yX7_tear.desc).map (fun d => d.parameters.length) = some 0 := by decide +kernel

def fX7_seed (N : Nat) (it_now_seed : Int32) (x1 : Int32) : Option (Int32 × Int32) := (if 0 ≤ x1 then some (it_now_seed, x1) else some ((-1000000002), it_now_seed))
set_option maxHeartbeats 4000000 in
set_option maxRecDepth 100000 in
theorem ctX7_seed (l : Launch) (D : va_G) (cI cZ cB cS : ClassId) (kK kV : Nat → Nat) (sz : Nat) (qt qt_text qt_reader qt_images qt_kept qt_buyers qt_tries qt_trial qt_row qt_plan qt_now qt_now_tube qt_now_goods qt_now_stick qt_now_kicks qt_now_kickCount qt_now_low qt_now_high qt_now_price qt_now_wired : Nat) (it_faultAt : Int32) (it_now_lost : Int32) (it_now_stamps : Int32) (it_now_sales : Int32) (it_now_damp : Int32) (it_now_worn : Int32) (it_now_seed : Int32) (x1 : Int32) (N : Nat) (r0 : Int32) (w_it_now_seed : Int32) (h : fX7_seed N it_now_seed x1 = some (r0, w_it_now_seed)) : CtI l yX7_seed wsX7_seed { frames := 0, cells := 0, slots := 0, locals := 0 } D (TY cI cZ cB cS) kK kV [.ref qt, .int x1] [(qt, .inr (7, [.ref qt_text, .ref qt_reader, .ref qt_images, .ref qt_kept, .ref qt_buyers, .ref qt_tries, .ref qt_trial, .ref qt_row, .ref qt_plan, .ref qt_now, .int it_faultAt])), (qt_now, .inr (4, [.ref qt_now_tube, .ref qt_now_goods, .ref qt_now_stick, .ref qt_now_kicks, .ref qt_now_kickCount, .ref qt_now_low, .ref qt_now_high, .ref qt_now_price, .ref qt_now_wired, .int it_now_lost, .int it_now_stamps, .int it_now_sales, .int it_now_damp, .int it_now_worn, .int it_now_seed]))] [(qt, .inr (7, [.ref qt_text, .ref qt_reader, .ref qt_images, .ref qt_kept, .ref qt_buyers, .ref qt_tries, .ref qt_trial, .ref qt_row, .ref qt_plan, .ref qt_now, .int it_faultAt])), (qt_now, .inr (4, [.ref qt_now_tube, .ref qt_now_goods, .ref qt_now_stick, .ref qt_now_kicks, .ref qt_now_kickCount, .ref qt_now_low, .ref qt_now_high, .ref qt_now_price, .ref qt_now_wired, .int it_now_lost, .int it_now_stamps, .int it_now_sales, .int it_now_damp, .int it_now_worn, .int w_it_now_seed]))] sz r0 := by
  refine mkI (cc := cX7_seed) (maxL := 3) (rt := .int) (own := RX7) (by decide) rfl rfl (Nat.le_of_ble_eq_true rfl) ?_
  intro p e s m args below meth c A Z ls hx hb hml hown hts hK hN hX hP hD hA hS hret hl
  have hl : lv_has ls 3 [(0, .ref qt), (1, .int x1)] := hl
  have fl68 : (Cond.fieldLink RX7 68 "SoupWall" "now" "LSoupWall$State;").before args s = true := hts _ (List.mem_of_getElem? (l := wsX7_seed) (i := 2) rfl)
  have hiX7 : ∀ w ∈ wsX70, w ∈ wsX7_seed := fun w h => List.mem_cons_of_mem _ (List.mem_append_left _ (List.mem_append_right _ h))
  have fl94 : (Cond.fieldLinkNest "SoupWall" 94 "SoupWall$State" "seed" "I" "SoupWall").before args s = true := hN.f 36 rfl
  have hiX4 : ∀ w ∈ wsX40, w ∈ wsX7_seed := fun w h => List.mem_cons_of_mem _ (List.mem_append_right _ h)
  have cn75 : (Cond.constant RX7 75 (-1000000002)).before args s = true := hts _ (List.mem_of_getElem? (l := wsX7_seed) (i := 1) rfl)
  unfold fX7_seed at h
  refine lv_iload_n hx hb dX7_seed_0 rfl (lv_at hl 1 rfl) ?_
  refine lv_if_ge (tgt := 7) hx hb dX7_seed_1 (by decide) (fun c1 => ?_) (fun c1 => ?_)
  · have h := if_t c1 h
    refine lv_aload_n hx hb dX7_seed_7 rfl (lv_at hl 0 rfl) ?_
    refine va_get (ci := 7) (v := .ref qt_now) (C := RX7) (T := TX7) (N := 11) hx hb hts hiX7 hown hK hP 0 rfl rfl 9 (by decide) fl68 (fun _ h9 => h9) rfl dX7_seed_8 ?_
    refine va_getN (ci := 4) (v := .int it_now_seed) (C := RX4) (T := TX4) (N := 15) hx hb hts hiX4 hown hK hP 1 rfl rfl 14 (by decide) fl94 (fun _ h9 => h9) rfl dX7_seed_11 ?_
    refine lv_istore_n (lv' := [(2, .int it_now_seed), (0, .ref qt), (1, .int x1)]) hx hb dX7_seed_14 rfl hl (by decide) rfl (fun ls hl => ?_)
    refine lv_aload_n hx hb dX7_seed_15 rfl (lv_at hl 1 rfl) ?_
    refine va_get (ci := 7) (v := .ref qt_now) (C := RX7) (T := TX7) (N := 11) hx hb hts hiX7 hown hK hP 0 rfl rfl 9 (by decide) fl68 (fun _ h9 => h9) rfl dX7_seed_16 ?_
    refine lv_iload_n hx hb dX7_seed_19 rfl (lv_at hl 2 rfl) ?_
    refine va_putN (ci := 4) (v := .int x1) (ty := .int) (C := RX4) (T := TX4) (N := 15) hx hb hts hiX4 tyX4 tyX4_ok nmX4 hown hK hP (dF hD rfl) hS 1 rfl rfl 14 (by decide) fl94 (fun _ h9 => h9) rfl (by decide +kernel) rfl rfl (Nat.le_of_ble_eq_true rfl) dX7_seed_20 (fun H locs hP _ hS => ?_)
    have hP : va_P D vwCl [(qt, .inr (7, [.ref qt_text, .ref qt_reader, .ref qt_images, .ref qt_kept, .ref qt_buyers, .ref qt_tries, .ref qt_trial, .ref qt_row, .ref qt_plan, .ref qt_now, .int it_faultAt])), (qt_now, .inr (4, [.ref qt_now_tube, .ref qt_now_goods, .ref qt_now_stick, .ref qt_now_kicks, .ref qt_now_kickCount, .ref qt_now_low, .ref qt_now_high, .ref qt_now_price, .ref qt_now_wired, .int it_now_lost, .int it_now_stamps, .int it_now_sales, .int it_now_damp, .int it_now_worn, .int x1]))] H := hP
    refine lv_iload_n hx hb dX7_seed_23 rfl (lv_at hl 0 rfl) ?_
    cases h
    exact hret _ _ _ _ hP hS rfl dX7_seed_24
  · have h := if_f c1 h
    refine lv_ldc (v := (-1000000002)) hx hb hown cn75 dX7_seed_4 ?_
    cases h
    exact hret _ _ _ _ hP hS rfl dX7_seed_6
theorem hdX7_seed : yX7_seed.cls = RX7 ∧ yX7_seed.cls ≠ "java/lang/invoke/MethodHandle" ∧ yX7_seed.cls ≠ "java/lang/invoke/VarHandle" ∧ (parseMethodDescriptor yX7_seed.desc).map (fun d => d.parameters.length) = some 1 := by decide +kernel

def fX7_keep (N : Nat) (it_images_0_lost : Int32) (it_images_0_stamps : Int32) (it_images_0_sales : Int32) (it_images_0_damp : Int32) (it_images_0_worn : Int32) (it_images_0_seed : Int32) (it_now_lost : Int32) (it_now_stamps : Int32) (it_now_sales : Int32) (it_now_damp : Int32) (it_now_worn : Int32) (it_now_seed : Int32) (ft_images_0_tube : Nat → Int32) (ft_now_tube : Nat → Int32) (ft_images_0_goods : Nat → Int32) (ft_now_goods : Nat → Int32) (ft_images_0_stick : Nat → Int32) (ft_now_stick : Nat → Int32) (ft_images_0_kicks : Nat → Int32) (ft_now_kicks : Nat → Int32) (ft_images_0_kickCount : Nat → Int32) (ft_now_kickCount : Nat → Int32) (ft_images_0_low : Nat → Int32) (ft_now_low : Nat → Int32) (ft_images_0_high : Nat → Int32) (ft_now_high : Nat → Int32) (ft_images_0_price : Nat → Int32) (ft_now_price : Nat → Int32) (ft_images_0_wired : Nat → Int32) (ft_now_wired : Nat → Int32) (ft_kept : Nat → Int32) (it_images_1_lost : Int32) (it_images_1_stamps : Int32) (it_images_1_sales : Int32) (it_images_1_damp : Int32) (it_images_1_worn : Int32) (it_images_1_seed : Int32) (ft_images_1_tube : Nat → Int32) (ft_images_1_goods : Nat → Int32) (ft_images_1_stick : Nat → Int32) (ft_images_1_kicks : Nat → Int32) (ft_images_1_kickCount : Nat → Int32) (ft_images_1_low : Nat → Int32) (ft_images_1_high : Nat → Int32) (ft_images_1_price : Nat → Int32) (ft_images_1_wired : Nat → Int32) (x1 : Int32) : Option (Int32 × Int32 × Int32 × Int32 × Int32 × Int32 × Int32 × (Nat → Int32) × (Nat → Int32) × (Nat → Int32) × (Nat → Int32) × (Nat → Int32) × (Nat → Int32) × (Nat → Int32) × (Nat → Int32) × (Nat → Int32) × (Nat → Int32) × Int32 × Int32 × Int32 × Int32 × Int32 × Int32 × (Nat → Int32) × (Nat → Int32) × (Nat → Int32) × (Nat → Int32) × (Nat → Int32) × (Nat → Int32) × (Nat → Int32) × (Nat → Int32) × (Nat → Int32)) := (if x1 < 0 then some ((-1000000001), it_images_0_lost, it_images_0_stamps, it_images_0_sales, it_images_0_damp, it_images_0_worn, it_images_0_seed, ft_images_0_tube, ft_images_0_goods, ft_images_0_stick, ft_images_0_kicks, ft_images_0_kickCount, ft_images_0_low, ft_images_0_high, ft_images_0_price, ft_images_0_wired, ft_kept, it_images_1_lost, it_images_1_stamps, it_images_1_sales, it_images_1_damp, it_images_1_worn, it_images_1_seed, ft_images_1_tube, ft_images_1_goods, ft_images_1_stick, ft_images_1_kicks, ft_images_1_kickCount, ft_images_1_low, ft_images_1_high, ft_images_1_price, ft_images_1_wired) else (if x1 < 2 then ck x1 2 ((if x1 = 0 then bd (fX4_copyFrom N it_images_0_lost it_images_0_stamps it_images_0_sales it_images_0_damp it_images_0_worn it_images_0_seed it_now_lost it_now_stamps it_now_sales it_now_damp it_now_worn it_now_seed ft_images_0_tube ft_now_tube ft_images_0_goods ft_now_goods ft_images_0_stick ft_now_stick ft_images_0_kicks ft_now_kicks ft_images_0_kickCount ft_now_kickCount ft_images_0_low ft_now_low ft_images_0_high ft_now_high ft_images_0_price ft_now_price ft_images_0_wired ft_now_wired) fun (g5, g6, g7, g8, g9, g10, g11, g12, g13, g14, g15, g16, g17, g18, g19) => some (1, g5, g6, g7, g8, g9, g10, g11, g12, g13, g14, g15, g16, g17, g18, g19, upd ft_kept (Int32.toNatClampNeg x1) ((vp_nar .boolean 1)), it_images_1_lost, it_images_1_stamps, it_images_1_sales, it_images_1_damp, it_images_1_worn, it_images_1_seed, ft_images_1_tube, ft_images_1_goods, ft_images_1_stick, ft_images_1_kicks, ft_images_1_kickCount, ft_images_1_low, ft_images_1_high, ft_images_1_price, ft_images_1_wired) else bd (fX4_copyFrom N it_images_1_lost it_images_1_stamps it_images_1_sales it_images_1_damp it_images_1_worn it_images_1_seed it_now_lost it_now_stamps it_now_sales it_now_damp it_now_worn it_now_seed ft_images_1_tube ft_now_tube ft_images_1_goods ft_now_goods ft_images_1_stick ft_now_stick ft_images_1_kicks ft_now_kicks ft_images_1_kickCount ft_now_kickCount ft_images_1_low ft_now_low ft_images_1_high ft_now_high ft_images_1_price ft_now_price ft_images_1_wired ft_now_wired) fun (g21, g22, g23, g24, g25, g26, g27, g28, g29, g30, g31, g32, g33, g34, g35) => some (1, it_images_0_lost, it_images_0_stamps, it_images_0_sales, it_images_0_damp, it_images_0_worn, it_images_0_seed, ft_images_0_tube, ft_images_0_goods, ft_images_0_stick, ft_images_0_kicks, ft_images_0_kickCount, ft_images_0_low, ft_images_0_high, ft_images_0_price, ft_images_0_wired, upd ft_kept (Int32.toNatClampNeg x1) ((vp_nar .boolean 1)), g21, g22, g23, g24, g25, g26, g27, g28, g29, g30, g31, g32, g33, g34, g35))) else some ((-1000000001), it_images_0_lost, it_images_0_stamps, it_images_0_sales, it_images_0_damp, it_images_0_worn, it_images_0_seed, ft_images_0_tube, ft_images_0_goods, ft_images_0_stick, ft_images_0_kicks, ft_images_0_kickCount, ft_images_0_low, ft_images_0_high, ft_images_0_price, ft_images_0_wired, ft_kept, it_images_1_lost, it_images_1_stamps, it_images_1_sales, it_images_1_damp, it_images_1_worn, it_images_1_seed, ft_images_1_tube, ft_images_1_goods, ft_images_1_stick, ft_images_1_kicks, ft_images_1_kickCount, ft_images_1_low, ft_images_1_high, ft_images_1_price, ft_images_1_wired)))
set_option maxHeartbeats 4000000 in
set_option maxRecDepth 100000 in
theorem ctX7_keep (l : Launch) (D : va_G) (cI cZ cB cS : ClassId) (kK kV : Nat → Nat) (sz : Nat) (qt qt_text qt_reader qt_images qt_kept qt_buyers qt_tries qt_trial qt_row qt_plan qt_now qt_images_0 qt_images_1 qt_images_0_tube qt_images_0_goods qt_images_0_stick qt_images_0_kicks qt_images_0_kickCount qt_images_0_low qt_images_0_high qt_images_0_price qt_images_0_wired qt_now_tube qt_now_goods qt_now_stick qt_now_kicks qt_now_kickCount qt_now_low qt_now_high qt_now_price qt_now_wired qt_images_1_tube qt_images_1_goods qt_images_1_stick qt_images_1_kicks qt_images_1_kickCount qt_images_1_low qt_images_1_high qt_images_1_price qt_images_1_wired : Nat) (it_faultAt : Int32) (it_images_0_lost : Int32) (it_images_0_stamps : Int32) (it_images_0_sales : Int32) (it_images_0_damp : Int32) (it_images_0_worn : Int32) (it_images_0_seed : Int32) (it_now_lost : Int32) (it_now_stamps : Int32) (it_now_sales : Int32) (it_now_damp : Int32) (it_now_worn : Int32) (it_now_seed : Int32) (ft_images_0_tube : Nat → Int32) (ft_now_tube : Nat → Int32) (ft_images_0_goods : Nat → Int32) (ft_now_goods : Nat → Int32) (ft_images_0_stick : Nat → Int32) (ft_now_stick : Nat → Int32) (ft_images_0_kicks : Nat → Int32) (ft_now_kicks : Nat → Int32) (ft_images_0_kickCount : Nat → Int32) (ft_now_kickCount : Nat → Int32) (ft_images_0_low : Nat → Int32) (ft_now_low : Nat → Int32) (ft_images_0_high : Nat → Int32) (ft_now_high : Nat → Int32) (ft_images_0_price : Nat → Int32) (ft_now_price : Nat → Int32) (ft_images_0_wired : Nat → Int32) (ft_now_wired : Nat → Int32) (ft_kept : Nat → Int32) (it_images_1_lost : Int32) (it_images_1_stamps : Int32) (it_images_1_sales : Int32) (it_images_1_damp : Int32) (it_images_1_worn : Int32) (it_images_1_seed : Int32) (ft_images_1_tube : Nat → Int32) (ft_images_1_goods : Nat → Int32) (ft_images_1_stick : Nat → Int32) (ft_images_1_kicks : Nat → Int32) (ft_images_1_kickCount : Nat → Int32) (ft_images_1_low : Nat → Int32) (ft_images_1_high : Nat → Int32) (ft_images_1_price : Nat → Int32) (ft_images_1_wired : Nat → Int32) (x1 : Int32) (N : Nat) (r0 : Int32) (w_it_images_0_lost : Int32) (w_it_images_0_stamps : Int32) (w_it_images_0_sales : Int32) (w_it_images_0_damp : Int32) (w_it_images_0_worn : Int32) (w_it_images_0_seed : Int32) (w_ft_images_0_tube : Nat → Int32) (w_ft_images_0_goods : Nat → Int32) (w_ft_images_0_stick : Nat → Int32) (w_ft_images_0_kicks : Nat → Int32) (w_ft_images_0_kickCount : Nat → Int32) (w_ft_images_0_low : Nat → Int32) (w_ft_images_0_high : Nat → Int32) (w_ft_images_0_price : Nat → Int32) (w_ft_images_0_wired : Nat → Int32) (w_ft_kept : Nat → Int32) (w_it_images_1_lost : Int32) (w_it_images_1_stamps : Int32) (w_it_images_1_sales : Int32) (w_it_images_1_damp : Int32) (w_it_images_1_worn : Int32) (w_it_images_1_seed : Int32) (w_ft_images_1_tube : Nat → Int32) (w_ft_images_1_goods : Nat → Int32) (w_ft_images_1_stick : Nat → Int32) (w_ft_images_1_kicks : Nat → Int32) (w_ft_images_1_kickCount : Nat → Int32) (w_ft_images_1_low : Nat → Int32) (w_ft_images_1_high : Nat → Int32) (w_ft_images_1_price : Nat → Int32) (w_ft_images_1_wired : Nat → Int32) (h : fX7_keep N it_images_0_lost it_images_0_stamps it_images_0_sales it_images_0_damp it_images_0_worn it_images_0_seed it_now_lost it_now_stamps it_now_sales it_now_damp it_now_worn it_now_seed ft_images_0_tube ft_now_tube ft_images_0_goods ft_now_goods ft_images_0_stick ft_now_stick ft_images_0_kicks ft_now_kicks ft_images_0_kickCount ft_now_kickCount ft_images_0_low ft_now_low ft_images_0_high ft_now_high ft_images_0_price ft_now_price ft_images_0_wired ft_now_wired ft_kept it_images_1_lost it_images_1_stamps it_images_1_sales it_images_1_damp it_images_1_worn it_images_1_seed ft_images_1_tube ft_images_1_goods ft_images_1_stick ft_images_1_kicks ft_images_1_kickCount ft_images_1_low ft_images_1_high ft_images_1_price ft_images_1_wired x1 = some (r0, w_it_images_0_lost, w_it_images_0_stamps, w_it_images_0_sales, w_it_images_0_damp, w_it_images_0_worn, w_it_images_0_seed, w_ft_images_0_tube, w_ft_images_0_goods, w_ft_images_0_stick, w_ft_images_0_kicks, w_ft_images_0_kickCount, w_ft_images_0_low, w_ft_images_0_high, w_ft_images_0_price, w_ft_images_0_wired, w_ft_kept, w_it_images_1_lost, w_it_images_1_stamps, w_it_images_1_sales, w_it_images_1_damp, w_it_images_1_worn, w_it_images_1_seed, w_ft_images_1_tube, w_ft_images_1_goods, w_ft_images_1_stick, w_ft_images_1_kicks, w_ft_images_1_kickCount, w_ft_images_1_low, w_ft_images_1_high, w_ft_images_1_price, w_ft_images_1_wired)) : CtI l yX7_keep wsX7_keep { frames := 1, cells := 0, slots := 0, locals := 22 } D (TY cI cZ cB cS) kK kV [.ref qt, .int x1] [(qt, .inr (7, [.ref qt_text, .ref qt_reader, .ref qt_images, .ref qt_kept, .ref qt_buyers, .ref qt_tries, .ref qt_trial, .ref qt_row, .ref qt_plan, .ref qt_now, .int it_faultAt])), (qt_images, .inl (cS, 2, .inr (.inr (.inr (.inr (im2 qt_images_0 qt_images_1)))))), (qt_images_0, .inr (4, [.ref qt_images_0_tube, .ref qt_images_0_goods, .ref qt_images_0_stick, .ref qt_images_0_kicks, .ref qt_images_0_kickCount, .ref qt_images_0_low, .ref qt_images_0_high, .ref qt_images_0_price, .ref qt_images_0_wired, .int it_images_0_lost, .int it_images_0_stamps, .int it_images_0_sales, .int it_images_0_damp, .int it_images_0_worn, .int it_images_0_seed])), (qt_now, .inr (4, [.ref qt_now_tube, .ref qt_now_goods, .ref qt_now_stick, .ref qt_now_kicks, .ref qt_now_kickCount, .ref qt_now_low, .ref qt_now_high, .ref qt_now_price, .ref qt_now_wired, .int it_now_lost, .int it_now_stamps, .int it_now_sales, .int it_now_damp, .int it_now_worn, .int it_now_seed])), (qt_images_0_tube, .inl (cI, 5, .inl ft_images_0_tube)), (qt_now_tube, .inl (cI, 5, .inl ft_now_tube)), (qt_images_0_goods, .inl (cI, 5, .inl ft_images_0_goods)), (qt_now_goods, .inl (cI, 5, .inl ft_now_goods)), (qt_images_0_stick, .inl (cI, 5, .inl ft_images_0_stick)), (qt_now_stick, .inl (cI, 5, .inl ft_now_stick)), (qt_images_0_kicks, .inl (cI, 5, .inl ft_images_0_kicks)), (qt_now_kicks, .inl (cI, 5, .inl ft_now_kicks)), (qt_images_0_kickCount, .inl (cI, 5, .inl ft_images_0_kickCount)), (qt_now_kickCount, .inl (cI, 5, .inl ft_now_kickCount)), (qt_images_0_low, .inl (cI, 5, .inl ft_images_0_low)), (qt_now_low, .inl (cI, 5, .inl ft_now_low)), (qt_images_0_high, .inl (cI, 5, .inl ft_images_0_high)), (qt_now_high, .inl (cI, 5, .inl ft_now_high)), (qt_images_0_price, .inl (cI, 5, .inl ft_images_0_price)), (qt_now_price, .inl (cI, 5, .inl ft_now_price)), (qt_images_0_wired, .inl (cI, 5, .inl ft_images_0_wired)), (qt_now_wired, .inl (cI, 5, .inl ft_now_wired)), (qt_kept, .inl (cZ, 2, .inl ft_kept)), (qt_images_1, .inr (4, [.ref qt_images_1_tube, .ref qt_images_1_goods, .ref qt_images_1_stick, .ref qt_images_1_kicks, .ref qt_images_1_kickCount, .ref qt_images_1_low, .ref qt_images_1_high, .ref qt_images_1_price, .ref qt_images_1_wired, .int it_images_1_lost, .int it_images_1_stamps, .int it_images_1_sales, .int it_images_1_damp, .int it_images_1_worn, .int it_images_1_seed])), (qt_images_1_tube, .inl (cI, 5, .inl ft_images_1_tube)), (qt_images_1_goods, .inl (cI, 5, .inl ft_images_1_goods)), (qt_images_1_stick, .inl (cI, 5, .inl ft_images_1_stick)), (qt_images_1_kicks, .inl (cI, 5, .inl ft_images_1_kicks)), (qt_images_1_kickCount, .inl (cI, 5, .inl ft_images_1_kickCount)), (qt_images_1_low, .inl (cI, 5, .inl ft_images_1_low)), (qt_images_1_high, .inl (cI, 5, .inl ft_images_1_high)), (qt_images_1_price, .inl (cI, 5, .inl ft_images_1_price)), (qt_images_1_wired, .inl (cI, 5, .inl ft_images_1_wired))] [(qt, .inr (7, [.ref qt_text, .ref qt_reader, .ref qt_images, .ref qt_kept, .ref qt_buyers, .ref qt_tries, .ref qt_trial, .ref qt_row, .ref qt_plan, .ref qt_now, .int it_faultAt])), (qt_images, .inl (cS, 2, .inr (.inr (.inr (.inr (im2 qt_images_0 qt_images_1)))))), (qt_images_0, .inr (4, [.ref qt_images_0_tube, .ref qt_images_0_goods, .ref qt_images_0_stick, .ref qt_images_0_kicks, .ref qt_images_0_kickCount, .ref qt_images_0_low, .ref qt_images_0_high, .ref qt_images_0_price, .ref qt_images_0_wired, .int w_it_images_0_lost, .int w_it_images_0_stamps, .int w_it_images_0_sales, .int w_it_images_0_damp, .int w_it_images_0_worn, .int w_it_images_0_seed])), (qt_now, .inr (4, [.ref qt_now_tube, .ref qt_now_goods, .ref qt_now_stick, .ref qt_now_kicks, .ref qt_now_kickCount, .ref qt_now_low, .ref qt_now_high, .ref qt_now_price, .ref qt_now_wired, .int it_now_lost, .int it_now_stamps, .int it_now_sales, .int it_now_damp, .int it_now_worn, .int it_now_seed])), (qt_images_0_tube, .inl (cI, 5, .inl w_ft_images_0_tube)), (qt_now_tube, .inl (cI, 5, .inl ft_now_tube)), (qt_images_0_goods, .inl (cI, 5, .inl w_ft_images_0_goods)), (qt_now_goods, .inl (cI, 5, .inl ft_now_goods)), (qt_images_0_stick, .inl (cI, 5, .inl w_ft_images_0_stick)), (qt_now_stick, .inl (cI, 5, .inl ft_now_stick)), (qt_images_0_kicks, .inl (cI, 5, .inl w_ft_images_0_kicks)), (qt_now_kicks, .inl (cI, 5, .inl ft_now_kicks)), (qt_images_0_kickCount, .inl (cI, 5, .inl w_ft_images_0_kickCount)), (qt_now_kickCount, .inl (cI, 5, .inl ft_now_kickCount)), (qt_images_0_low, .inl (cI, 5, .inl w_ft_images_0_low)), (qt_now_low, .inl (cI, 5, .inl ft_now_low)), (qt_images_0_high, .inl (cI, 5, .inl w_ft_images_0_high)), (qt_now_high, .inl (cI, 5, .inl ft_now_high)), (qt_images_0_price, .inl (cI, 5, .inl w_ft_images_0_price)), (qt_now_price, .inl (cI, 5, .inl ft_now_price)), (qt_images_0_wired, .inl (cI, 5, .inl w_ft_images_0_wired)), (qt_now_wired, .inl (cI, 5, .inl ft_now_wired)), (qt_kept, .inl (cZ, 2, .inl w_ft_kept)), (qt_images_1, .inr (4, [.ref qt_images_1_tube, .ref qt_images_1_goods, .ref qt_images_1_stick, .ref qt_images_1_kicks, .ref qt_images_1_kickCount, .ref qt_images_1_low, .ref qt_images_1_high, .ref qt_images_1_price, .ref qt_images_1_wired, .int w_it_images_1_lost, .int w_it_images_1_stamps, .int w_it_images_1_sales, .int w_it_images_1_damp, .int w_it_images_1_worn, .int w_it_images_1_seed])), (qt_images_1_tube, .inl (cI, 5, .inl w_ft_images_1_tube)), (qt_images_1_goods, .inl (cI, 5, .inl w_ft_images_1_goods)), (qt_images_1_stick, .inl (cI, 5, .inl w_ft_images_1_stick)), (qt_images_1_kicks, .inl (cI, 5, .inl w_ft_images_1_kicks)), (qt_images_1_kickCount, .inl (cI, 5, .inl w_ft_images_1_kickCount)), (qt_images_1_low, .inl (cI, 5, .inl w_ft_images_1_low)), (qt_images_1_high, .inl (cI, 5, .inl w_ft_images_1_high)), (qt_images_1_price, .inl (cI, 5, .inl w_ft_images_1_price)), (qt_images_1_wired, .inl (cI, 5, .inl w_ft_images_1_wired))] sz r0 := by
  refine mkI (cc := cX7_keep) (maxL := 2) (rt := .int) (own := RX7) (by decide) rfl rfl (Nat.le_of_ble_eq_true rfl) ?_
  intro p e s m args below meth c A Z ls hx hb hml hown hts hK hN hX hP hD hA hS hret hl
  have hl : lv_has ls 2 [(0, .ref qt), (1, .int x1)] := hl
  have cn137 : (Cond.constant RX7 137 (-1000000001)).before args s = true := hts _ (List.mem_of_getElem? (l := wsX7_keep) (i := 1) rfl)
  have fl27 : (Cond.fieldLink RX7 27 "SoupWall" "images" "[LSoupWall$State;").before args s = true := hts _ (List.mem_of_getElem? (l := wsX7_keep) (i := 2) rfl)
  have hiX7 : ∀ w ∈ wsX70, w ∈ wsX7_keep := fun w h => List.mem_cons_of_mem _ (List.mem_append_left _ (List.mem_append_right _ h))
  have fl68 : (Cond.fieldLink RX7 68 "SoupWall" "now" "LSoupWall$State;").before args s = true := hts _ (List.mem_of_getElem? (l := wsX7_keep) (i := 3) rfl)
  have fl31 : (Cond.fieldLink RX7 31 "SoupWall" "kept" "[Z").before args s = true := hts _ (List.mem_of_getElem? (l := wsX7_keep) (i := 4) rfl)
  unfold fX7_keep at h
  refine lv_iload_n hx hb dX7_keep_0 rfl (lv_at hl 1 rfl) ?_
  refine lv_if_lt (tgt := 9) hx hb dX7_keep_1 (by decide) (fun c1 => ?_) (fun c1 => ?_)
  · have h := if_t c1 h
    refine lv_ldc (v := (-1000000001)) hx hb hown cn137 dX7_keep_9 ?_
    cases h
    exact hret _ _ _ _ hP hS rfl dX7_keep_11
  · have h := if_f c1 h
    refine lv_iload_n hx hb dX7_keep_4 rfl (lv_at hl 1 rfl) ?_
    refine lv_iconst (v := 2) hx hb dX7_keep_5 (by decide) ?_
    refine lv_icmp_lt (tgt := 12) hx hb dX7_keep_6 (by decide) (fun c2 => ?_) (fun c2 => ?_)
    · have h := if_t c2 h
      refine lv_aload_n hx hb dX7_keep_12 rfl (lv_at hl 0 rfl) ?_
      refine va_get (ci := 7) (v := .ref qt_images) (C := RX7) (T := TX7) (N := 11) hx hb hts hiX7 hown hK hP 0 rfl rfl 2 (by decide) fl27 (fun _ h9 => h9) rfl dX7_keep_13 ?_
      refine lv_iload_n hx hb dX7_keep_16 rfl (lv_at hl 1 rfl) ?_
      obtain ⟨hi3, h⟩ := ck_el h
      refine va_aldq hx hb hK hP 1 3 rfl rfl hi3 dX7_keep_17 ?_
      by_cases c4 : x1 = 0
      · have h := if_t c4 h
        rw [im2_t c4]
        refine lv_aload_n hx hb dX7_keep_18 rfl (lv_at hl 0 rfl) ?_
        refine va_get (ci := 7) (v := .ref qt_now) (C := RX7) (T := TX7) (N := 11) hx hb hts hiX7 hown hK hP 0 rfl rfl 9 (by decide) fl68 (fun _ h9 => h9) rfl dX7_keep_19 ?_
        obtain ⟨⟨g5, g6, g7, g8, g9, g10, g11, g12, g13, g14, g15, g16, g17, g18, g19⟩, hc20, h⟩ := bd_el h
        refine callVV (rest := []) ⟨hx, hb, hml, hown, hts⟩ (ctX4_copyFrom l D cI cZ cB cS kK kV _ qt_images_0 qt_images_0_tube qt_images_0_goods qt_images_0_stick qt_images_0_kicks qt_images_0_kickCount qt_images_0_low qt_images_0_high qt_images_0_price qt_images_0_wired qt_now qt_now_tube qt_now_goods qt_now_stick qt_now_kicks qt_now_kickCount qt_now_low qt_now_high qt_now_price qt_now_wired it_images_0_lost it_images_0_stamps it_images_0_sales it_images_0_damp it_images_0_worn it_images_0_seed it_now_lost it_now_stamps it_now_sales it_now_damp it_now_worn it_now_seed ft_images_0_tube ft_now_tube ft_images_0_goods ft_now_goods ft_images_0_stick ft_now_stick ft_images_0_kicks ft_now_kicks ft_images_0_kickCount ft_now_kickCount ft_images_0_low ft_now_low ft_images_0_high ft_now_high ft_images_0_price ft_now_price ft_images_0_wired ft_now_wired N g5 g6 g7 g8 g9 g10 g11 g12 g13 g14 g15 g16 g17 g18 g19 hc20) (cwV 1 hts gX7_keep_X4_copyFrom rfl rfl rfl hdX4_copyFrom ⟨Nat.le_of_ble_eq_true rfl, Nat.le_of_ble_eq_true rfl⟩) hK hN hX hP (dF hD rfl) hS hA [2, 3, 4, 5, 6, 7, 8, 9, 10, 11, 12, 13, 14, 15, 16, 17, 18, 19, 20, 21] rfl (by decide +kernel) [(qt, .inr (7, [.ref qt_text, .ref qt_reader, .ref qt_images, .ref qt_kept, .ref qt_buyers, .ref qt_tries, .ref qt_trial, .ref qt_row, .ref qt_plan, .ref qt_now, .int it_faultAt])), (qt_images, .inl (cS, 2, .inr (.inr (.inr (.inr (im2 qt_images_0 qt_images_1)))))), (qt_images_0, .inr (4, [.ref qt_images_0_tube, .ref qt_images_0_goods, .ref qt_images_0_stick, .ref qt_images_0_kicks, .ref qt_images_0_kickCount, .ref qt_images_0_low, .ref qt_images_0_high, .ref qt_images_0_price, .ref qt_images_0_wired, .int g5, .int g6, .int g7, .int g8, .int g9, .int g10])), (qt_now, .inr (4, [.ref qt_now_tube, .ref qt_now_goods, .ref qt_now_stick, .ref qt_now_kicks, .ref qt_now_kickCount, .ref qt_now_low, .ref qt_now_high, .ref qt_now_price, .ref qt_now_wired, .int it_now_lost, .int it_now_stamps, .int it_now_sales, .int it_now_damp, .int it_now_worn, .int it_now_seed])), (qt_images_0_tube, .inl (cI, 5, .inl g11)), (qt_now_tube, .inl (cI, 5, .inl ft_now_tube)), (qt_images_0_goods, .inl (cI, 5, .inl g12)), (qt_now_goods, .inl (cI, 5, .inl ft_now_goods)), (qt_images_0_stick, .inl (cI, 5, .inl g13)), (qt_now_stick, .inl (cI, 5, .inl ft_now_stick)), (qt_images_0_kicks, .inl (cI, 5, .inl g14)), (qt_now_kicks, .inl (cI, 5, .inl ft_now_kicks)), (qt_images_0_kickCount, .inl (cI, 5, .inl g15)), (qt_now_kickCount, .inl (cI, 5, .inl ft_now_kickCount)), (qt_images_0_low, .inl (cI, 5, .inl g16)), (qt_now_low, .inl (cI, 5, .inl ft_now_low)), (qt_images_0_high, .inl (cI, 5, .inl g17)), (qt_now_high, .inl (cI, 5, .inl ft_now_high)), (qt_images_0_price, .inl (cI, 5, .inl g18)), (qt_now_price, .inl (cI, 5, .inl ft_now_price)), (qt_images_0_wired, .inl (cI, 5, .inl g19)), (qt_now_wired, .inl (cI, 5, .inl ft_now_wired)), (qt_kept, .inl (cZ, 2, .inl ft_kept)), (qt_images_1, .inr (4, [.ref qt_images_1_tube, .ref qt_images_1_goods, .ref qt_images_1_stick, .ref qt_images_1_kicks, .ref qt_images_1_kickCount, .ref qt_images_1_low, .ref qt_images_1_high, .ref qt_images_1_price, .ref qt_images_1_wired, .int it_images_1_lost, .int it_images_1_stamps, .int it_images_1_sales, .int it_images_1_damp, .int it_images_1_worn, .int it_images_1_seed])), (qt_images_1_tube, .inl (cI, 5, .inl ft_images_1_tube)), (qt_images_1_goods, .inl (cI, 5, .inl ft_images_1_goods)), (qt_images_1_stick, .inl (cI, 5, .inl ft_images_1_stick)), (qt_images_1_kicks, .inl (cI, 5, .inl ft_images_1_kicks)), (qt_images_1_kickCount, .inl (cI, 5, .inl ft_images_1_kickCount)), (qt_images_1_low, .inl (cI, 5, .inl ft_images_1_low)), (qt_images_1_high, .inl (cI, 5, .inl ft_images_1_high)), (qt_images_1_price, .inl (cI, 5, .inl ft_images_1_price)), (qt_images_1_wired, .inl (cI, 5, .inl ft_images_1_wired))] [0, 1, 22, 23, 24, 25, 26, 27, 28, 29, 30, 31, 32] rfl rfl 33 rfl (by decide +kernel) (va_recv hK hP (ci := 4) (q0 := 2) rfl rfl) rfl hl.1 rfl (Nat.le_of_ble_eq_true rfl) ⟨Nat.zero_le _, Nat.zero_le _⟩ dX7_keep_22 (fun H locs hP hS => ?_)
        refine lv_aload_n hx hb dX7_keep_25 rfl (lv_at hl 0 rfl) ?_
        refine va_get (ci := 7) (v := .ref qt_kept) (C := RX7) (T := TX7) (N := 11) hx hb hts hiX7 hown hK hP 0 rfl rfl 3 (by decide) fl31 (fun _ h9 => h9) rfl dX7_keep_26 ?_
        refine lv_iload_n hx hb dX7_keep_29 rfl (lv_at hl 1 rfl) ?_
        refine lv_iconst (v := 1) hx hb dX7_keep_30 (by decide) ?_
        refine va_zast hx hb hK hP (dF hD rfl) hS 22 1 rfl rfl hi3 dX7_keep_31 (fun H locs hP _ hS => ?_)
        have hP : va_P D vwCl [(qt, .inr (7, [.ref qt_text, .ref qt_reader, .ref qt_images, .ref qt_kept, .ref qt_buyers, .ref qt_tries, .ref qt_trial, .ref qt_row, .ref qt_plan, .ref qt_now, .int it_faultAt])), (qt_images, .inl (cS, 2, .inr (.inr (.inr (.inr (im2 qt_images_0 qt_images_1)))))), (qt_images_0, .inr (4, [.ref qt_images_0_tube, .ref qt_images_0_goods, .ref qt_images_0_stick, .ref qt_images_0_kicks, .ref qt_images_0_kickCount, .ref qt_images_0_low, .ref qt_images_0_high, .ref qt_images_0_price, .ref qt_images_0_wired, .int g5, .int g6, .int g7, .int g8, .int g9, .int g10])), (qt_now, .inr (4, [.ref qt_now_tube, .ref qt_now_goods, .ref qt_now_stick, .ref qt_now_kicks, .ref qt_now_kickCount, .ref qt_now_low, .ref qt_now_high, .ref qt_now_price, .ref qt_now_wired, .int it_now_lost, .int it_now_stamps, .int it_now_sales, .int it_now_damp, .int it_now_worn, .int it_now_seed])), (qt_images_0_tube, .inl (cI, 5, .inl g11)), (qt_now_tube, .inl (cI, 5, .inl ft_now_tube)), (qt_images_0_goods, .inl (cI, 5, .inl g12)), (qt_now_goods, .inl (cI, 5, .inl ft_now_goods)), (qt_images_0_stick, .inl (cI, 5, .inl g13)), (qt_now_stick, .inl (cI, 5, .inl ft_now_stick)), (qt_images_0_kicks, .inl (cI, 5, .inl g14)), (qt_now_kicks, .inl (cI, 5, .inl ft_now_kicks)), (qt_images_0_kickCount, .inl (cI, 5, .inl g15)), (qt_now_kickCount, .inl (cI, 5, .inl ft_now_kickCount)), (qt_images_0_low, .inl (cI, 5, .inl g16)), (qt_now_low, .inl (cI, 5, .inl ft_now_low)), (qt_images_0_high, .inl (cI, 5, .inl g17)), (qt_now_high, .inl (cI, 5, .inl ft_now_high)), (qt_images_0_price, .inl (cI, 5, .inl g18)), (qt_now_price, .inl (cI, 5, .inl ft_now_price)), (qt_images_0_wired, .inl (cI, 5, .inl g19)), (qt_now_wired, .inl (cI, 5, .inl ft_now_wired)), (qt_kept, .inl (cZ, 2, .inl (upd ft_kept (Int32.toNatClampNeg x1) ((vp_nar .boolean 1))))), (qt_images_1, .inr (4, [.ref qt_images_1_tube, .ref qt_images_1_goods, .ref qt_images_1_stick, .ref qt_images_1_kicks, .ref qt_images_1_kickCount, .ref qt_images_1_low, .ref qt_images_1_high, .ref qt_images_1_price, .ref qt_images_1_wired, .int it_images_1_lost, .int it_images_1_stamps, .int it_images_1_sales, .int it_images_1_damp, .int it_images_1_worn, .int it_images_1_seed])), (qt_images_1_tube, .inl (cI, 5, .inl ft_images_1_tube)), (qt_images_1_goods, .inl (cI, 5, .inl ft_images_1_goods)), (qt_images_1_stick, .inl (cI, 5, .inl ft_images_1_stick)), (qt_images_1_kicks, .inl (cI, 5, .inl ft_images_1_kicks)), (qt_images_1_kickCount, .inl (cI, 5, .inl ft_images_1_kickCount)), (qt_images_1_low, .inl (cI, 5, .inl ft_images_1_low)), (qt_images_1_high, .inl (cI, 5, .inl ft_images_1_high)), (qt_images_1_price, .inl (cI, 5, .inl ft_images_1_price)), (qt_images_1_wired, .inl (cI, 5, .inl ft_images_1_wired))] H := hP
        refine lv_iconst (v := 1) hx hb dX7_keep_32 (by decide) ?_
        cases h
        exact hret _ _ _ _ hP hS rfl dX7_keep_33
      · have h := if_f c4 h
        rw [im2_f c4 hi3]
        refine lv_aload_n hx hb dX7_keep_18 rfl (lv_at hl 0 rfl) ?_
        refine va_get (ci := 7) (v := .ref qt_now) (C := RX7) (T := TX7) (N := 11) hx hb hts hiX7 hown hK hP 0 rfl rfl 9 (by decide) fl68 (fun _ h9 => h9) rfl dX7_keep_19 ?_
        obtain ⟨⟨g21, g22, g23, g24, g25, g26, g27, g28, g29, g30, g31, g32, g33, g34, g35⟩, hc36, h⟩ := bd_el h
        refine callVV (rest := []) ⟨hx, hb, hml, hown, hts⟩ (ctX4_copyFrom l D cI cZ cB cS kK kV _ qt_images_1 qt_images_1_tube qt_images_1_goods qt_images_1_stick qt_images_1_kicks qt_images_1_kickCount qt_images_1_low qt_images_1_high qt_images_1_price qt_images_1_wired qt_now qt_now_tube qt_now_goods qt_now_stick qt_now_kicks qt_now_kickCount qt_now_low qt_now_high qt_now_price qt_now_wired it_images_1_lost it_images_1_stamps it_images_1_sales it_images_1_damp it_images_1_worn it_images_1_seed it_now_lost it_now_stamps it_now_sales it_now_damp it_now_worn it_now_seed ft_images_1_tube ft_now_tube ft_images_1_goods ft_now_goods ft_images_1_stick ft_now_stick ft_images_1_kicks ft_now_kicks ft_images_1_kickCount ft_now_kickCount ft_images_1_low ft_now_low ft_images_1_high ft_now_high ft_images_1_price ft_now_price ft_images_1_wired ft_now_wired N g21 g22 g23 g24 g25 g26 g27 g28 g29 g30 g31 g32 g33 g34 g35 hc36) (cwV 1 hts gX7_keep_X4_copyFrom rfl rfl rfl hdX4_copyFrom ⟨Nat.le_of_ble_eq_true rfl, Nat.le_of_ble_eq_true rfl⟩) hK hN hX hP (dF hD rfl) hS hA [23, 3, 24, 5, 25, 7, 26, 9, 27, 11, 28, 13, 29, 15, 30, 17, 31, 19, 32, 21] rfl (by decide +kernel) [(qt, .inr (7, [.ref qt_text, .ref qt_reader, .ref qt_images, .ref qt_kept, .ref qt_buyers, .ref qt_tries, .ref qt_trial, .ref qt_row, .ref qt_plan, .ref qt_now, .int it_faultAt])), (qt_images, .inl (cS, 2, .inr (.inr (.inr (.inr (im2 qt_images_0 qt_images_1)))))), (qt_images_0, .inr (4, [.ref qt_images_0_tube, .ref qt_images_0_goods, .ref qt_images_0_stick, .ref qt_images_0_kicks, .ref qt_images_0_kickCount, .ref qt_images_0_low, .ref qt_images_0_high, .ref qt_images_0_price, .ref qt_images_0_wired, .int it_images_0_lost, .int it_images_0_stamps, .int it_images_0_sales, .int it_images_0_damp, .int it_images_0_worn, .int it_images_0_seed])), (qt_now, .inr (4, [.ref qt_now_tube, .ref qt_now_goods, .ref qt_now_stick, .ref qt_now_kicks, .ref qt_now_kickCount, .ref qt_now_low, .ref qt_now_high, .ref qt_now_price, .ref qt_now_wired, .int it_now_lost, .int it_now_stamps, .int it_now_sales, .int it_now_damp, .int it_now_worn, .int it_now_seed])), (qt_images_0_tube, .inl (cI, 5, .inl ft_images_0_tube)), (qt_now_tube, .inl (cI, 5, .inl ft_now_tube)), (qt_images_0_goods, .inl (cI, 5, .inl ft_images_0_goods)), (qt_now_goods, .inl (cI, 5, .inl ft_now_goods)), (qt_images_0_stick, .inl (cI, 5, .inl ft_images_0_stick)), (qt_now_stick, .inl (cI, 5, .inl ft_now_stick)), (qt_images_0_kicks, .inl (cI, 5, .inl ft_images_0_kicks)), (qt_now_kicks, .inl (cI, 5, .inl ft_now_kicks)), (qt_images_0_kickCount, .inl (cI, 5, .inl ft_images_0_kickCount)), (qt_now_kickCount, .inl (cI, 5, .inl ft_now_kickCount)), (qt_images_0_low, .inl (cI, 5, .inl ft_images_0_low)), (qt_now_low, .inl (cI, 5, .inl ft_now_low)), (qt_images_0_high, .inl (cI, 5, .inl ft_images_0_high)), (qt_now_high, .inl (cI, 5, .inl ft_now_high)), (qt_images_0_price, .inl (cI, 5, .inl ft_images_0_price)), (qt_now_price, .inl (cI, 5, .inl ft_now_price)), (qt_images_0_wired, .inl (cI, 5, .inl ft_images_0_wired)), (qt_now_wired, .inl (cI, 5, .inl ft_now_wired)), (qt_kept, .inl (cZ, 2, .inl ft_kept)), (qt_images_1, .inr (4, [.ref qt_images_1_tube, .ref qt_images_1_goods, .ref qt_images_1_stick, .ref qt_images_1_kicks, .ref qt_images_1_kickCount, .ref qt_images_1_low, .ref qt_images_1_high, .ref qt_images_1_price, .ref qt_images_1_wired, .int g21, .int g22, .int g23, .int g24, .int g25, .int g26])), (qt_images_1_tube, .inl (cI, 5, .inl g27)), (qt_images_1_goods, .inl (cI, 5, .inl g28)), (qt_images_1_stick, .inl (cI, 5, .inl g29)), (qt_images_1_kicks, .inl (cI, 5, .inl g30)), (qt_images_1_kickCount, .inl (cI, 5, .inl g31)), (qt_images_1_low, .inl (cI, 5, .inl g32)), (qt_images_1_high, .inl (cI, 5, .inl g33)), (qt_images_1_price, .inl (cI, 5, .inl g34)), (qt_images_1_wired, .inl (cI, 5, .inl g35))] [0, 1, 2, 4, 6, 8, 10, 12, 14, 16, 18, 20, 22] rfl rfl 33 rfl (by decide +kernel) (va_recv hK hP (ci := 4) (q0 := 23) rfl rfl) rfl hl.1 rfl (Nat.le_of_ble_eq_true rfl) ⟨Nat.zero_le _, Nat.zero_le _⟩ dX7_keep_22 (fun H locs hP hS => ?_)
        refine lv_aload_n hx hb dX7_keep_25 rfl (lv_at hl 0 rfl) ?_
        refine va_get (ci := 7) (v := .ref qt_kept) (C := RX7) (T := TX7) (N := 11) hx hb hts hiX7 hown hK hP 0 rfl rfl 3 (by decide) fl31 (fun _ h9 => h9) rfl dX7_keep_26 ?_
        refine lv_iload_n hx hb dX7_keep_29 rfl (lv_at hl 1 rfl) ?_
        refine lv_iconst (v := 1) hx hb dX7_keep_30 (by decide) ?_
        refine va_zast hx hb hK hP (dF hD rfl) hS 22 1 rfl rfl hi3 dX7_keep_31 (fun H locs hP _ hS => ?_)
        have hP : va_P D vwCl [(qt, .inr (7, [.ref qt_text, .ref qt_reader, .ref qt_images, .ref qt_kept, .ref qt_buyers, .ref qt_tries, .ref qt_trial, .ref qt_row, .ref qt_plan, .ref qt_now, .int it_faultAt])), (qt_images, .inl (cS, 2, .inr (.inr (.inr (.inr (im2 qt_images_0 qt_images_1)))))), (qt_images_0, .inr (4, [.ref qt_images_0_tube, .ref qt_images_0_goods, .ref qt_images_0_stick, .ref qt_images_0_kicks, .ref qt_images_0_kickCount, .ref qt_images_0_low, .ref qt_images_0_high, .ref qt_images_0_price, .ref qt_images_0_wired, .int it_images_0_lost, .int it_images_0_stamps, .int it_images_0_sales, .int it_images_0_damp, .int it_images_0_worn, .int it_images_0_seed])), (qt_now, .inr (4, [.ref qt_now_tube, .ref qt_now_goods, .ref qt_now_stick, .ref qt_now_kicks, .ref qt_now_kickCount, .ref qt_now_low, .ref qt_now_high, .ref qt_now_price, .ref qt_now_wired, .int it_now_lost, .int it_now_stamps, .int it_now_sales, .int it_now_damp, .int it_now_worn, .int it_now_seed])), (qt_images_0_tube, .inl (cI, 5, .inl ft_images_0_tube)), (qt_now_tube, .inl (cI, 5, .inl ft_now_tube)), (qt_images_0_goods, .inl (cI, 5, .inl ft_images_0_goods)), (qt_now_goods, .inl (cI, 5, .inl ft_now_goods)), (qt_images_0_stick, .inl (cI, 5, .inl ft_images_0_stick)), (qt_now_stick, .inl (cI, 5, .inl ft_now_stick)), (qt_images_0_kicks, .inl (cI, 5, .inl ft_images_0_kicks)), (qt_now_kicks, .inl (cI, 5, .inl ft_now_kicks)), (qt_images_0_kickCount, .inl (cI, 5, .inl ft_images_0_kickCount)), (qt_now_kickCount, .inl (cI, 5, .inl ft_now_kickCount)), (qt_images_0_low, .inl (cI, 5, .inl ft_images_0_low)), (qt_now_low, .inl (cI, 5, .inl ft_now_low)), (qt_images_0_high, .inl (cI, 5, .inl ft_images_0_high)), (qt_now_high, .inl (cI, 5, .inl ft_now_high)), (qt_images_0_price, .inl (cI, 5, .inl ft_images_0_price)), (qt_now_price, .inl (cI, 5, .inl ft_now_price)), (qt_images_0_wired, .inl (cI, 5, .inl ft_images_0_wired)), (qt_now_wired, .inl (cI, 5, .inl ft_now_wired)), (qt_kept, .inl (cZ, 2, .inl (upd ft_kept (Int32.toNatClampNeg x1) ((vp_nar .boolean 1))))), (qt_images_1, .inr (4, [.ref qt_images_1_tube, .ref qt_images_1_goods, .ref qt_images_1_stick, .ref qt_images_1_kicks, .ref qt_images_1_kickCount, .ref qt_images_1_low, .ref qt_images_1_high, .ref qt_images_1_price, .ref qt_images_1_wired, .int g21, .int g22, .int g23, .int g24, .int g25, .int g26])), (qt_images_1_tube, .inl (cI, 5, .inl g27)), (qt_images_1_goods, .inl (cI, 5, .inl g28)), (qt_images_1_stick, .inl (cI, 5, .inl g29)), (qt_images_1_kicks, .inl (cI, 5, .inl g30)), (qt_images_1_kickCount, .inl (cI, 5, .inl g31)), (qt_images_1_low, .inl (cI, 5, .inl g32)), (qt_images_1_high, .inl (cI, 5, .inl g33)), (qt_images_1_price, .inl (cI, 5, .inl g34)), (qt_images_1_wired, .inl (cI, 5, .inl g35))] H := hP
        refine lv_iconst (v := 1) hx hb dX7_keep_32 (by decide) ?_
        cases h
        exact hret _ _ _ _ hP hS rfl dX7_keep_33
    · have h := if_f c2 h
      refine lv_ldc (v := (-1000000001)) hx hb hown cn137 dX7_keep_9 ?_
      cases h
      exact hret _ _ _ _ hP hS rfl dX7_keep_11
theorem hdX7_keep : yX7_keep.cls = RX7 ∧ yX7_keep.cls ≠ "java/lang/invoke/MethodHandle" ∧ yX7_keep.cls ≠ "java/lang/invoke/VarHandle" ∧ (parseMethodDescriptor yX7_keep.desc).map (fun d => d.parameters.length) = some 1 := by decide +kernel
