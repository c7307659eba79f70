noncomputable def fX6_add (N : Nat) (it_count : Int32) (ft_row : Nat → Int32) (ft_length : Nat → Int32) (ft_free : Nat → Int32) (x1 : Int32) (x2 : Int32) (x3 : Int32) : Option (Int32 × Int32 × (Nat → Int32) × (Nat → Int32) × (Nat → Int32)) := (if it_count < 10 then ck it_count 10 (lt (it_count + 1) fun n3 => some (1, n3, upd ft_row (Int32.toNatClampNeg it_count) x1, upd ft_length (Int32.toNatClampNeg it_count) x2, upd ft_free (Int32.toNatClampNeg it_count) ((vp_nar .boolean x3)))) else some (0, it_count, ft_row, ft_length, ft_free))
set_option maxHeartbeats 4000000 in
set_option maxRecDepth 100000 in
theorem ctX6_add (l : Launch) (D : va_G) (cI cZ cB cS : ClassId) (kK kV : Nat → Nat) (sz : Nat) (qt qt_row qt_length qt_free : Nat) (it_count : Int32) (ft_row : Nat → Int32) (ft_length : Nat → Int32) (ft_free : Nat → Int32) (x1 : Int32) (x2 : Int32) (x3 : Int32) (N : Nat) (r0 : Int32) (w_it_count : Int32) (w_ft_row : Nat → Int32) (w_ft_length : Nat → Int32) (w_ft_free : Nat → Int32) (h : fX6_add N it_count ft_row ft_length ft_free x1 x2 x3 = some (r0, w_it_count, w_ft_row, w_ft_length, w_ft_free)) : CtI l yX6_add wsX6_add { frames := 0, cells := 0, slots := 0, locals := 0 } D (TY cI cZ cB cS) kK kV [.ref qt, .int x1, .int x2, .int x3] [(qt, .inr (6, [.ref qt_row, .ref qt_length, .ref qt_free, .int it_count])), (qt_row, .inl (cI, 10, .inl ft_row)), (qt_length, .inl (cI, 10, .inl ft_length)), (qt_free, .inl (cZ, 10, .inl ft_free))] [(qt, .inr (6, [.ref qt_row, .ref qt_length, .ref qt_free, .int w_it_count])), (qt_row, .inl (cI, 10, .inl w_ft_row)), (qt_length, .inl (cI, 10, .inl w_ft_length)), (qt_free, .inl (cZ, 10, .inl w_ft_free))] sz r0 := by
  refine mkI (cc := cX6_add) (maxL := 4) (rt := .boolean) (own := RX6) (by decide) rfl rfl (Nat.le_of_ble_eq_true rfl) ?_
  intro p e s m args below meth c A Z ls hx hb hml hown hts hK hN hX hP hD hA hS hret hl
  have hl : lv_has ls 4 [(0, .ref qt), (1, .int x1), (2, .int x2), (3, .int x3)] := hl
  have fl22 : (Cond.fieldLink RX6 22 "SoupWall$Tries" "count" "I").before args s = true := hts _ (List.mem_of_getElem? (l := wsX6_add) (i := 1) rfl)
  have hiX6 : ∀ w ∈ wsX60, w ∈ wsX6_add := fun w h => List.mem_cons_of_mem _ (List.mem_append_right _ h)
  have fl9 : (Cond.fieldLink RX6 9 "SoupWall$Tries" "row" "[I").before args s = true := hts _ (List.mem_of_getElem? (l := wsX6_add) (i := 2) rfl)
  have fl15 : (Cond.fieldLink RX6 15 "SoupWall$Tries" "length" "[I").before args s = true := hts _ (List.mem_of_getElem? (l := wsX6_add) (i := 3) rfl)
  have fl18 : (Cond.fieldLink RX6 18 "SoupWall$Tries" "free" "[Z").before args s = true := hts _ (List.mem_of_getElem? (l := wsX6_add) (i := 4) rfl)
  unfold fX6_add at h
  refine lv_aload_n hx hb dX6_add_0 rfl (lv_at hl 0 rfl) ?_
  refine va_get (ci := 6) (v := .int it_count) (C := RX6) (T := TX6) (N := 4) hx hb hts hiX6 hown hK hP 0 rfl rfl 3 (by decide) fl22 (fun _ h9 => h9) rfl dX6_add_1 ?_
  refine lv_bipush (v := 10) hx hb dX6_add_4 (by decide) ?_
  refine lv_icmp_lt (tgt := 11) hx hb dX6_add_6 (by decide) (fun c1 => ?_) (fun c1 => ?_)
  · replace h := if_t c1 h
    refine lv_aload_n hx hb dX6_add_11 rfl (lv_at hl 0 rfl) ?_
    refine va_get (ci := 6) (v := .ref qt_row) (C := RX6) (T := TX6) (N := 4) hx hb hts hiX6 hown hK hP 0 rfl rfl 0 (by decide) fl9 (fun _ h9 => h9) rfl dX6_add_12 ?_
    refine lv_aload_n hx hb dX6_add_15 rfl (lv_at hl 0 rfl) ?_
    refine va_get (ci := 6) (v := .int it_count) (C := RX6) (T := TX6) (N := 4) hx hb hts hiX6 hown hK hP 0 rfl rfl 3 (by decide) fl22 (fun _ h9 => h9) rfl dX6_add_16 ?_
    refine lv_iload_n hx hb dX6_add_19 rfl (lv_at hl 1 rfl) ?_
    replace h := ck_el h
    obtain ⟨hi2, h⟩ := h
    refine va_iast hx hb hK hP (dF hD rfl) hS 1 0 rfl rfl hi2 dX6_add_20 (fun H locs hP _ hS => ?_)
    replace hP : va_P D vwCl [(qt, .inr (6, [.ref qt_row, .ref qt_length, .ref qt_free, .int it_count])), (qt_row, .inl (cI, 10, .inl (upd ft_row (Int32.toNatClampNeg it_count) x1))), (qt_length, .inl (cI, 10, .inl ft_length)), (qt_free, .inl (cZ, 10, .inl ft_free))] H := hP
    refine lv_aload_n hx hb dX6_add_21 rfl (lv_at hl 0 rfl) ?_
    refine va_get (ci := 6) (v := .ref qt_length) (C := RX6) (T := TX6) (N := 4) hx hb hts hiX6 hown hK hP 0 rfl rfl 1 (by decide) fl15 (fun _ h9 => h9) rfl dX6_add_22 ?_
    refine lv_aload_n hx hb dX6_add_25 rfl (lv_at hl 0 rfl) ?_
    refine va_get (ci := 6) (v := .int it_count) (C := RX6) (T := TX6) (N := 4) hx hb hts hiX6 hown hK hP 0 rfl rfl 3 (by decide) fl22 (fun _ h9 => h9) rfl dX6_add_26 ?_
    refine lv_iload_n hx hb dX6_add_29 rfl (lv_at hl 2 rfl) ?_
    refine va_iast hx hb hK hP (dF hD rfl) hS 2 0 rfl rfl hi2 dX6_add_30 (fun H locs hP _ hS => ?_)
    replace hP : va_P D vwCl [(qt, .inr (6, [.ref qt_row, .ref qt_length, .ref qt_free, .int it_count])), (qt_row, .inl (cI, 10, .inl (upd ft_row (Int32.toNatClampNeg it_count) x1))), (qt_length, .inl (cI, 10, .inl (upd ft_length (Int32.toNatClampNeg it_count) x2))), (qt_free, .inl (cZ, 10, .inl ft_free))] H := hP
    refine lv_aload_n hx hb dX6_add_31 rfl (lv_at hl 0 rfl) ?_
    refine va_get (ci := 6) (v := .ref qt_free) (C := RX6) (T := TX6) (N := 4) hx hb hts hiX6 hown hK hP 0 rfl rfl 2 (by decide) fl18 (fun _ h9 => h9) rfl dX6_add_32 ?_
    refine lv_aload_n hx hb dX6_add_35 rfl (lv_at hl 0 rfl) ?_
    refine va_get (ci := 6) (v := .int it_count) (C := RX6) (T := TX6) (N := 4) hx hb hts hiX6 hown hK hP 0 rfl rfl 3 (by decide) fl22 (fun _ h9 => h9) rfl dX6_add_36 ?_
    refine lv_iload_n hx hb dX6_add_39 rfl (lv_at hl 3 rfl) ?_
    refine va_zast hx hb hK hP (dF hD rfl) hS 3 1 rfl rfl hi2 dX6_add_40 (fun H locs hP _ hS => ?_)
    replace hP : va_P D vwCl [(qt, .inr (6, [.ref qt_row, .ref qt_length, .ref qt_free, .int it_count])), (qt_row, .inl (cI, 10, .inl (upd ft_row (Int32.toNatClampNeg it_count) x1))), (qt_length, .inl (cI, 10, .inl (upd ft_length (Int32.toNatClampNeg it_count) x2))), (qt_free, .inl (cZ, 10, .inl (upd ft_free (Int32.toNatClampNeg it_count) ((vp_nar .boolean x3)))))] H := hP
    refine lv_aload_n hx hb dX6_add_41 rfl (lv_at hl 0 rfl) ?_
    refine lv_dup hx hb dX6_add_42 rfl ?_
    refine va_get (ci := 6) (v := .int it_count) (C := RX6) (T := TX6) (N := 4) hx hb hts hiX6 hown hK hP 0 rfl rfl 3 (by decide) fl22 (fun _ h9 => h9) rfl dX6_add_43 ?_
    refine lv_iconst (v := 1) hx hb dX6_add_46 (by decide) ?_
    refine lv_iadd hx hb dX6_add_47 ?_
    refine lv_topi (fun n3 en3 => ?_)
    replace h := lt_at en3 h
    refine va_put (ci := 6) (v := .int n3) (ty := .int) (C := RX6) (T := TX6) (N := 4) hx hb hts hiX6 tyX6 tyX6_ok nmX6 hown hK hP (dF hD rfl) hS 0 rfl rfl 3 (by decide) fl22 (fun _ h9 => h9) rfl (by decide +kernel) rfl rfl (Nat.le_of_ble_eq_true rfl) dX6_add_48 (fun H locs hP _ hS => ?_)
    replace hP : va_P D vwCl [(qt, .inr (6, [.ref qt_row, .ref qt_length, .ref qt_free, .int n3])), (qt_row, .inl (cI, 10, .inl (upd ft_row (Int32.toNatClampNeg it_count) x1))), (qt_length, .inl (cI, 10, .inl (upd ft_length (Int32.toNatClampNeg it_count) x2))), (qt_free, .inl (cZ, 10, .inl (upd ft_free (Int32.toNatClampNeg it_count) ((vp_nar .boolean x3)))))] H := hP
    refine lv_iconst (v := 1) hx hb dX6_add_51 (by decide) ?_
    simp only [Option.some.injEq, Prod.mk.injEq] at h
    obtain ⟨rfl, rfl, rfl, rfl, rfl⟩ := h
    exact hret _ _ _ _ hP hS rfl dX6_add_52
  · replace h := if_f c1 h
    refine lv_iconst (v := 0) hx hb dX6_add_9 (by decide) ?_
    simp only [Option.some.injEq, Prod.mk.injEq] at h
    obtain ⟨rfl, rfl, rfl, rfl, rfl⟩ := h
    exact hret _ _ _ _ hP hS rfl dX6_add_10
theorem hdX6_add : yX6_add.cls = RX6 ∧ yX6_add.cls ≠ "java/lang/invoke/MethodHandle" ∧ yX6_add.cls ≠ "java/lang/invoke/VarHandle" ∧ (parseMethodDescriptor yX6_add.desc).map (fun d => d.parameters.length) = some 3 := by decide +kernel

noncomputable def fX6_kicksUntilFree_L3 (N : Nat) : Nat → Int32 → Int32 → Int32 → Int32 → (Nat → Int32) → (Nat → Int32) → Option ((Unit) ⊕ (Int32))
  | 0, _, _, _, _, _, _ => none
  | k + 1, x1, x2, x3, x4, ft_length, ft_row => ck x1 10 ((if (ft_length (Int32.toNatClampNeg x1)) < x4 then some (.inl ()) else lt (((ft_row (Int32.toNatClampNeg x1)) >>> ((x4 - x3) &&& 31)) &&& ((1 <<< (x3 &&& 31)) - 1)) fun n3 => (if n3 = x2 then some (.inr x4) else lt (x4 + 1) fun n5 => fX6_kicksUntilFree_L3 N k x1 x2 x3 n5 ft_length ft_row)))
theorem fX6_kicksUntilFree_L3_s (N : Nat) (k : Nat) (x1 : Int32) (x2 : Int32) (x3 : Int32) (x4 : Int32) (ft_length : Nat → Int32) (ft_row : Nat → Int32) : fX6_kicksUntilFree_L3 N (k + 1) x1 x2 x3 x4 ft_length ft_row = (ck x1 10 ((if (ft_length (Int32.toNatClampNeg x1)) < x4 then some (.inl ()) else lt (((ft_row (Int32.toNatClampNeg x1)) >>> ((x4 - x3) &&& 31)) &&& ((1 <<< (x3 &&& 31)) - 1)) fun n3 => (if n3 = x2 then some (.inr x4) else lt (x4 + 1) fun n5 => fX6_kicksUntilFree_L3 N k x1 x2 x3 n5 ft_length ft_row)))) := rfl
noncomputable def fX6_kicksUntilFree (N : Nat) (ft_length : Nat → Int32) (ft_row : Nat → Int32) (x1 : Int32) (x2 : Int32) (x3 : Int32) : Option (Int32) := bd (fX6_kicksUntilFree_L3 N N x1 x2 x3 x3 ft_length ft_row) fun o => match o with | .inr rr => some rr | .inl _ => some (-1)
set_option maxHeartbeats 4000000 in
set_option maxRecDepth 100000 in
theorem ctX6_kicksUntilFree (l : Launch) (D : va_G) (cI cZ cB cS : ClassId) (kK kV : Nat → Nat) (sz : Nat) (qt qt_row qt_length qt_free : Nat) (it_count : Int32) (ft_length : Nat → Int32) (ft_row : Nat → Int32) (x1 : Int32) (x2 : Int32) (x3 : Int32) (N : Nat) (r0 : Int32)  (h : fX6_kicksUntilFree N ft_length ft_row x1 x2 x3 = some r0) : CtI l yX6_kicksUntilFree wsX6_kicksUntilFree { frames := 0, cells := 0, slots := 0, locals := 0 } D (TY cI cZ cB cS) kK kV [.ref qt, .int x1, .int x2, .int x3] [(qt, .inr (6, [.ref qt_row, .ref qt_length, .ref qt_free, .int it_count])), (qt_length, .inl (cI, 10, .inl ft_length)), (qt_row, .inl (cI, 10, .inl ft_row))] [(qt, .inr (6, [.ref qt_row, .ref qt_length, .ref qt_free, .int it_count])), (qt_length, .inl (cI, 10, .inl ft_length)), (qt_row, .inl (cI, 10, .inl ft_row))] sz r0 := by
  refine mkI (cc := cX6_kicksUntilFree) (maxL := 6) (rt := .int) (own := RX6) (by decide) rfl rfl (Nat.le_of_ble_eq_true rfl) ?_
  intro p e s m args below meth c A Z ls hx hb hml hown hts hK hN hX hP hD hA hS hret hl
  have hl : lv_has ls 6 [(0, .ref qt), (1, .int x1), (2, .int x2), (3, .int x3)] := hl
  have fl15 : (Cond.fieldLink RX6 15 "SoupWall$Tries" "length" "[I").before args s = true := hts _ (List.mem_of_getElem? (l := wsX6_kicksUntilFree) (i := 1) rfl)
  have hiX6 : ∀ w ∈ wsX60, w ∈ wsX6_kicksUntilFree := fun w h => List.mem_cons_of_mem _ (List.mem_append_right _ h)
  have fl9 : (Cond.fieldLink RX6 9 "SoupWall$Tries" "row" "[I").before args s = true := hts _ (List.mem_of_getElem? (l := wsX6_kicksUntilFree) (i := 2) rfl)
  have lp3 : ∀ (k : Nat) (x1 : Int32) (x2 : Int32) (x3 : Int32) (x4 : Int32)  (H : Heap) (locs : List Loc) (ls : Array Slot) (o : (Unit) ⊕ (Int32)), fX6_kicksUntilFree_L3 N k x1 x2 x3 x4 ft_length ft_row = some o → va_P D vwCl [(qt, .inr (6, [.ref qt_row, .ref qt_length, .ref qt_free, .int it_count])), (qt_length, .inl (cI, 10, .inl ft_length)), (qt_row, .inl (cI, 10, .inl ft_row))] H → va_S A s.heap H locs → lv_has ls 6 [(0, .ref qt), (1, .int x1), (2, .int x2), (3, .int x3), (4, .int x4)] → (∀ rr, .inr rr = o → rr = r0) → (.inl () = o → ∀ (H : Heap) (locs : List Loc) (ls : Array Slot), va_P D vwCl [(qt, .inr (6, [.ref qt_row, .ref qt_length, .ref qt_free, .int it_count])), (qt_length, .inl (cI, 10, .inl ft_length)), (qt_row, .inl (cI, 10, .inl ft_row))] H → va_S A s.heap H locs → lv_has ls 6 [] → W p l e ({ frames := 0, cells := 0, slots := 0, locals := 0 } : Room) s m args below meth c H locs 0 0 Z (F0 m 48 ls [])) → W p l e ({ frames := 0, cells := 0, slots := 0, locals := 0 } : Room) s m args below meth c H locs 0 0 Z (F0 m 3 ls []) := by
    intro k
    induction k with
    | zero =>
      intro x1 x2 x3 x4 H locs ls o h
      exact nomatch (show (none : Option ((Unit) ⊕ (Int32))) = some o from h)
    | succ k ih =>
      intro x1 x2 x3 x4 H locs ls o h hP hS hl KR K
      rw [fX6_kicksUntilFree_L3_s] at h
      refine lv_iload hx hb dX6_kicksUntilFree_3 (lv_at hl 4 rfl) ?_
      refine lv_aload_n hx hb dX6_kicksUntilFree_5 rfl (lv_at hl 0 rfl) ?_
      refine va_get (ci := 6) (v := .ref qt_length) (C := RX6) (T := TX6) (N := 4) hx hb hts hiX6 hown hK hP 0 rfl rfl 1 (by decide) fl15 (fun _ h9 => h9) rfl dX6_kicksUntilFree_6 ?_
      refine lv_iload_n hx hb dX6_kicksUntilFree_9 rfl (lv_at hl 1 rfl) ?_
      replace h := ck_el h
      obtain ⟨hi1, h⟩ := h
      refine va_iald hx hb hK hP 1 0 rfl rfl hi1 dX6_kicksUntilFree_10 ?_
      refine lv_icmp_gt (tgt := 48) hx hb dX6_kicksUntilFree_11 (by decide) (fun c2 => ?_) (fun c2 => ?_)
      · replace h := if_t c2 h
        exact K  (Option.some.inj h) _ _ _ hP hS (lv_sub hl [] rfl)
      · replace h := if_f c2 h
        refine lv_aload_n hx hb dX6_kicksUntilFree_14 rfl (lv_at hl 0 rfl) ?_
        refine va_get (ci := 6) (v := .ref qt_row) (C := RX6) (T := TX6) (N := 4) hx hb hts hiX6 hown hK hP 0 rfl rfl 0 (by decide) fl9 (fun _ h9 => h9) rfl dX6_kicksUntilFree_15 ?_
        refine lv_iload_n hx hb dX6_kicksUntilFree_18 rfl (lv_at hl 1 rfl) ?_
        refine va_iald hx hb hK hP 2 0 rfl rfl hi1 dX6_kicksUntilFree_19 ?_
        refine lv_iload hx hb dX6_kicksUntilFree_20 (lv_at hl 4 rfl) ?_
        refine lv_iload_n hx hb dX6_kicksUntilFree_22 rfl (lv_at hl 3 rfl) ?_
        refine lv_isub hx hb dX6_kicksUntilFree_23 ?_
        refine lv_ishr hx hb dX6_kicksUntilFree_24 ?_
        refine lv_iconst (v := 1) hx hb dX6_kicksUntilFree_25 (by decide) ?_
        refine lv_iload_n hx hb dX6_kicksUntilFree_26 rfl (lv_at hl 3 rfl) ?_
        refine lv_ishl hx hb dX6_kicksUntilFree_27 ?_
        refine lv_iconst (v := 1) hx hb dX6_kicksUntilFree_28 (by decide) ?_
        refine lv_isub hx hb dX6_kicksUntilFree_29 ?_
        refine lv_iand hx hb dX6_kicksUntilFree_30 ?_
        refine lv_topi (fun n3 en3 => ?_)
        replace h := lt_at en3 h
        refine lv_istore (lv' := [(5, .int n3), (0, .ref qt), (1, .int x1), (2, .int x2), (3, .int x3), (4, .int x4)]) hx hb dX6_kicksUntilFree_31 hl (by decide) rfl (fun ls hl => ?_)
        refine lv_iload hx hb dX6_kicksUntilFree_33 (lv_at hl 0 rfl) ?_
        refine lv_iload_n hx hb dX6_kicksUntilFree_35 rfl (lv_at hl 3 rfl) ?_
        refine lv_icmp_ne (tgt := 42) hx hb dX6_kicksUntilFree_36 (by decide) (fun c4 => ?_) (fun c4 => ?_)
        · replace h := if_f c4 h
          obtain ⟨n5, en5⟩ : ∃ z : Int32, z = x4 + 1 := ⟨_, rfl⟩
          replace h := lt_at en5 h
          refine lv_iinc (v := n5) (lv' := [(4, .int n5), (5, .int n3), (0, .ref qt), (1, .int x1), (2, .int x2), (3, .int x3)]) hx hb dX6_kicksUntilFree_42 hl (k := 5) rfl (by rw [en5]; rfl) (by decide) rfl (fun ls hl => ?_)
          refine lv_goto (tgt := 3) hx hb dX6_kicksUntilFree_45 (by decide) ?_
          exact ih x1 x2 x3 n5 _ _ _ o h hP hS (lv_sub hl [2, 3, 4, 5, 0] rfl) KR K
        · replace h := if_t c4 h
          refine lv_iload hx hb dX6_kicksUntilFree_39 (lv_at hl 5 rfl) ?_
          have hz9 := KR _ (Option.some.inj h)
          subst hz9
          exact hret _ _ _ _ hP hS rfl dX6_kicksUntilFree_41
  unfold fX6_kicksUntilFree at h
  refine lv_iload_n hx hb dX6_kicksUntilFree_0 rfl (lv_at hl 3 rfl) ?_
  refine lv_istore (lv' := [(4, .int x3), (0, .ref qt), (1, .int x1), (2, .int x2), (3, .int x3)]) hx hb dX6_kicksUntilFree_1 hl (by decide) rfl (fun ls hl => ?_)
  replace h := bd_el h
  obtain ⟨o6, ho6, h⟩ := h
  refine lp3 N x1 x2 x3 x3 _ _ _ o6 ho6 hP hS (lv_sub hl [1, 2, 3, 4, 0] rfl) (fun rr er => by subst er; exact Option.some.inj h) (fun  eo H locs ls hP hS hl => ?_)
  subst eo
  dsimp only at h
  refine lv_iconst (v := (-1)) hx hb dX6_kicksUntilFree_48 (by decide) ?_
  simp only [Option.some.injEq] at h
  subst h
  exact hret _ _ _ _ hP hS rfl dX6_kicksUntilFree_49
theorem hdX6_kicksUntilFree : yX6_kicksUntilFree.cls = RX6 ∧ yX6_kicksUntilFree.cls ≠ "java/lang/invoke/MethodHandle" ∧ yX6_kicksUntilFree.cls ≠ "java/lang/invoke/VarHandle" ∧ (parseMethodDescriptor yX6_kicksUntilFree.desc).map (fun d => d.parameters.length) = some 3 := by decide +kernel

noncomputable def fX6_allow_L2 (N : Nat) : Nat → Int32 → Int32 → Int32 → Int32 → (Nat → Int32) → (Nat → Int32) → (Nat → Int32) → Option ((Unit) ⊕ (Int32))
  | 0, _, _, _, _, _, _, _ => none
  | k + 1, x1, x2, x3, it_count, ft_free, ft_length, ft_row => (if it_count ≤ x3 then some (.inl ()) else ck x3 10 ((if (ft_free (Int32.toNatClampNeg x3)) = 0 then bd (fX6_kicksUntilFree N ft_length ft_row x3 x1 x2) fun r4 => (if r4 = (-1) then lt (x3 + 1) fun n7 => fX6_allow_L2 N k x1 x2 n7 it_count ft_free ft_length ft_row else some (.inr 0)) else lt (ft_length (Int32.toNatClampNeg x3)) fun n8 => bd (fX6_kicksUntilFree N ft_length ft_row x3 x1 x2) fun r9 => (if r9 = n8 then lt (x3 + 1) fun n12 => fX6_allow_L2 N k x1 x2 n12 it_count ft_free ft_length ft_row else some (.inr 0)))))
theorem fX6_allow_L2_s (N : Nat) (k : Nat) (x1 : Int32) (x2 : Int32) (x3 : Int32) (it_count : Int32) (ft_free : Nat → Int32) (ft_length : Nat → Int32) (ft_row : Nat → Int32) : fX6_allow_L2 N (k + 1) x1 x2 x3 it_count ft_free ft_length ft_row = ((if it_count ≤ x3 then some (.inl ()) else ck x3 10 ((if (ft_free (Int32.toNatClampNeg x3)) = 0 then bd (fX6_kicksUntilFree N ft_length ft_row x3 x1 x2) fun r4 => (if r4 = (-1) then lt (x3 + 1) fun n7 => fX6_allow_L2 N k x1 x2 n7 it_count ft_free ft_length ft_row else some (.inr 0)) else lt (ft_length (Int32.toNatClampNeg x3)) fun n8 => bd (fX6_kicksUntilFree N ft_length ft_row x3 x1 x2) fun r9 => (if r9 = n8 then lt (x3 + 1) fun n12 => fX6_allow_L2 N k x1 x2 n12 it_count ft_free ft_length ft_row else some (.inr 0)))))) := rfl
noncomputable def fX6_allow (N : Nat) (it_count : Int32) (ft_free : Nat → Int32) (ft_length : Nat → Int32) (ft_row : Nat → Int32) (x1 : Int32) (x2 : Int32) : Option (Int32) := bd (fX6_allow_L2 N N x1 x2 0 it_count ft_free ft_length ft_row) fun o => match o with | .inr rr => some rr | .inl _ => some 1
set_option maxHeartbeats 4000000 in
set_option maxRecDepth 100000 in
theorem ctX6_allow (l : Launch) (D : va_G) (cI cZ cB cS : ClassId) (kK kV : Nat → Nat) (sz : Nat) (qt qt_row qt_length qt_free : Nat) (it_count : Int32) (ft_free : Nat → Int32) (ft_length : Nat → Int32) (ft_row : Nat → Int32) (x1 : Int32) (x2 : Int32) (N : Nat) (r0 : Int32)  (h : fX6_allow N it_count ft_free ft_length ft_row x1 x2 = some r0) : CtI l yX6_allow wsX6_allow { frames := 1, cells := 0, slots := 0, locals := 25 } D (TY cI cZ cB cS) kK kV [.ref qt, .int x1, .int x2] [(qt, .inr (6, [.ref qt_row, .ref qt_length, .ref qt_free, .int it_count])), (qt_free, .inl (cZ, 10, .inl ft_free)), (qt_length, .inl (cI, 10, .inl ft_length)), (qt_row, .inl (cI, 10, .inl ft_row))] [(qt, .inr (6, [.ref qt_row, .ref qt_length, .ref qt_free, .int it_count])), (qt_free, .inl (cZ, 10, .inl ft_free)), (qt_length, .inl (cI, 10, .inl ft_length)), (qt_row, .inl (cI, 10, .inl ft_row))] sz r0 := by
  refine mkI (cc := cX6_allow) (maxL := 5) (rt := .boolean) (own := RX6) (by decide) rfl rfl (Nat.le_of_ble_eq_true rfl) ?_
  intro p e s m args below meth c A Z ls hx hb hml hown hts hK hN hX hP hD hA hS hret hl
  have hl : lv_has ls 5 [(0, .ref qt), (1, .int x1), (2, .int x2)] := hl
  have fl22 : (Cond.fieldLink RX6 22 "SoupWall$Tries" "count" "I").before args s = true := hts _ (List.mem_of_getElem? (l := wsX6_allow) (i := 1) rfl)
  have hiX6 : ∀ w ∈ wsX60, w ∈ wsX6_allow := fun w h => List.mem_cons_of_mem _ (List.mem_append_right _ h)
  have fl18 : (Cond.fieldLink RX6 18 "SoupWall$Tries" "free" "[Z").before args s = true := hts _ (List.mem_of_getElem? (l := wsX6_allow) (i := 2) rfl)
  have fl15 : (Cond.fieldLink RX6 15 "SoupWall$Tries" "length" "[I").before args s = true := hts _ (List.mem_of_getElem? (l := wsX6_allow) (i := 3) rfl)
  have lp2 : ∀ (k : Nat) (x1 : Int32) (x2 : Int32) (x3 : Int32)  (H : Heap) (locs : List Loc) (ls : Array Slot) (o : (Unit) ⊕ (Int32)), fX6_allow_L2 N k x1 x2 x3 it_count ft_free ft_length ft_row = some o → va_P D vwCl [(qt, .inr (6, [.ref qt_row, .ref qt_length, .ref qt_free, .int it_count])), (qt_free, .inl (cZ, 10, .inl ft_free)), (qt_length, .inl (cI, 10, .inl ft_length)), (qt_row, .inl (cI, 10, .inl ft_row))] H → va_S A s.heap H locs → lv_has ls 5 [(0, .ref qt), (1, .int x1), (2, .int x2), (3, .int x3)] → (∀ rr, .inr rr = o → rr = r0) → (.inl () = o → ∀ (H : Heap) (locs : List Loc) (ls : Array Slot), va_P D vwCl [(qt, .inr (6, [.ref qt_row, .ref qt_length, .ref qt_free, .int it_count])), (qt_free, .inl (cZ, 10, .inl ft_free)), (qt_length, .inl (cI, 10, .inl ft_length)), (qt_row, .inl (cI, 10, .inl ft_row))] H → va_S A s.heap H locs → lv_has ls 5 [] → W p l e ({ frames := 1, cells := 0, slots := 0, locals := 25 } : Room) s m args below meth c H locs 0 0 Z (F0 m 51 ls [])) → W p l e ({ frames := 1, cells := 0, slots := 0, locals := 25 } : Room) s m args below meth c H locs 0 0 Z (F0 m 2 ls []) := by
    intro k
    induction k with
    | zero =>
      intro x1 x2 x3 H locs ls o h
      exact nomatch (show (none : Option ((Unit) ⊕ (Int32))) = some o from h)
    | succ k ih =>
      intro x1 x2 x3 H locs ls o h hP hS hl KR K
      rw [fX6_allow_L2_s] at h
      refine lv_iload_n hx hb dX6_allow_2 rfl (lv_at hl 3 rfl) ?_
      refine lv_aload_n hx hb dX6_allow_3 rfl (lv_at hl 0 rfl) ?_
      refine va_get (ci := 6) (v := .int it_count) (C := RX6) (T := TX6) (N := 4) hx hb hts hiX6 hown hK hP 0 rfl rfl 3 (by decide) fl22 (fun _ h9 => h9) rfl dX6_allow_4 ?_
      refine lv_icmp_ge (tgt := 51) hx hb dX6_allow_7 (by decide) (fun c1 => ?_) (fun c1 => ?_)
      · replace h := if_t c1 h
        exact K  (Option.some.inj h) _ _ _ hP hS (lv_sub hl [] rfl)
      · replace h := if_f c1 h
        refine lv_aload_n hx hb dX6_allow_10 rfl (lv_at hl 0 rfl) ?_
        refine va_get (ci := 6) (v := .ref qt_free) (C := RX6) (T := TX6) (N := 4) hx hb hts hiX6 hown hK hP 0 rfl rfl 2 (by decide) fl18 (fun _ h9 => h9) rfl dX6_allow_11 ?_
        refine lv_iload_n hx hb dX6_allow_14 rfl (lv_at hl 3 rfl) ?_
        replace h := ck_el h
        obtain ⟨hi2, h⟩ := h
        refine va_zald hx hb hK hP 1 1 rfl rfl hi2 dX6_allow_15 ?_
        refine lv_if_eq (tgt := 28) hx hb dX6_allow_16 (by decide) (fun c3 => ?_) (fun c3 => ?_)
        · replace h := if_t c3 h
          refine lv_iconst (v := (-1)) hx hb dX6_allow_28 (by decide) ?_
          refine lv_istore (lv' := [(4, .int (-1)), (0, .ref qt), (1, .int x1), (2, .int x2), (3, .int x3)]) hx hb dX6_allow_29 hl (by decide) rfl (fun ls hl => ?_)
          refine lv_aload_n hx hb dX6_allow_31 rfl (lv_at hl 1 rfl) ?_
          refine lv_iload_n hx hb dX6_allow_32 rfl (lv_at hl 4 rfl) ?_
          refine lv_iload_n hx hb dX6_allow_33 rfl (lv_at hl 2 rfl) ?_
          refine lv_iload_n hx hb dX6_allow_34 rfl (lv_at hl 3 rfl) ?_
          replace h := bd_el h
          obtain ⟨r4, hc5, h⟩ := h
          refine callVI (rest := []) ⟨hx, hb, hml, hown, hts⟩ (ctX6_kicksUntilFree l D cI cZ cB cS kK kV _ qt qt_row qt_length qt_free it_count ft_length ft_row x3 x1 x2 N r4 hc5) (cwV 3 hts gX6_allow_X6_kicksUntilFree rfl rfl rfl hdX6_kicksUntilFree ⟨Nat.le_of_ble_eq_true rfl, Nat.le_of_ble_eq_true rfl⟩) hK hN hX hP (dF hD rfl) hS hA [0, 2, 3] (mcC rfl (mcC rfl (mcC rfl mcN))) (by decide +kernel) [(qt, .inr (6, [.ref qt_row, .ref qt_length, .ref qt_free, .int it_count])), (qt_free, .inl (cZ, 10, .inl ft_free)), (qt_length, .inl (cI, 10, .inl ft_length)), (qt_row, .inl (cI, 10, .inl ft_row))] [1] (mcC rfl (mcC rfl (mcC rfl mcN))) ((mcC rfl mcN).trans (mcC rfl mcN).symm) 4 rfl (by decide +kernel) (va_recv hK hP (ci := 6) (q0 := 0) rfl rfl) rfl hl.1 rfl (Nat.le_of_ble_eq_true rfl) ⟨Nat.zero_le _, Nat.zero_le _⟩ dX6_allow_35 (fun H locs hP hS => ?_)
          refine lv_iload hx hb dX6_allow_38 (lv_at hl 0 rfl) ?_
          refine lv_icmp_eq (tgt := 45) hx hb dX6_allow_40 (by decide) (fun c6 => ?_) (fun c6 => ?_)
          · replace h := if_t c6 h
            obtain ⟨n7, en7⟩ : ∃ z : Int32, z = x3 + 1 := ⟨_, rfl⟩
            replace h := lt_at en7 h
            refine lv_iinc (v := n7) (lv' := [(3, .int n7), (4, .int (-1)), (0, .ref qt), (1, .int x1), (2, .int x2)]) hx hb dX6_allow_45 hl (k := 4) rfl (by rw [en7]; rfl) (by decide) rfl (fun ls hl => ?_)
            refine lv_goto (tgt := 2) hx hb dX6_allow_48 (by decide) ?_
            exact ih x1 x2 n7 _ _ _ o h hP hS (lv_sub hl [2, 3, 4, 0] rfl) KR K
          · replace h := if_f c6 h
            refine lv_iconst (v := 0) hx hb dX6_allow_43 (by decide) ?_
            have hz9 := KR _ (Option.some.inj h)
            subst hz9
            exact hret _ _ _ _ hP hS rfl dX6_allow_44
        · replace h := if_f c3 h
          refine lv_aload_n hx hb dX6_allow_19 rfl (lv_at hl 0 rfl) ?_
          refine va_get (ci := 6) (v := .ref qt_length) (C := RX6) (T := TX6) (N := 4) hx hb hts hiX6 hown hK hP 0 rfl rfl 1 (by decide) fl15 (fun _ h9 => h9) rfl dX6_allow_20 ?_
          refine lv_iload_n hx hb dX6_allow_23 rfl (lv_at hl 3 rfl) ?_
          refine va_iald hx hb hK hP 2 0 rfl rfl hi2 dX6_allow_24 ?_
          refine lv_goto (tgt := 29) hx hb dX6_allow_25 (by decide) ?_
          refine lv_topi (fun n8 en8 => ?_)
          replace h := lt_at en8 h
          refine lv_istore (lv' := [(4, .int n8), (0, .ref qt), (1, .int x1), (2, .int x2), (3, .int x3)]) hx hb dX6_allow_29 hl (by decide) rfl (fun ls hl => ?_)
          refine lv_aload_n hx hb dX6_allow_31 rfl (lv_at hl 1 rfl) ?_
          refine lv_iload_n hx hb dX6_allow_32 rfl (lv_at hl 4 rfl) ?_
          refine lv_iload_n hx hb dX6_allow_33 rfl (lv_at hl 2 rfl) ?_
          refine lv_iload_n hx hb dX6_allow_34 rfl (lv_at hl 3 rfl) ?_
          replace h := bd_el h
          obtain ⟨r9, hc10, h⟩ := h
          refine callVI (rest := []) ⟨hx, hb, hml, hown, hts⟩ (ctX6_kicksUntilFree l D cI cZ cB cS kK kV _ qt qt_row qt_length qt_free it_count ft_length ft_row x3 x1 x2 N r9 hc10) (cwV 3 hts gX6_allow_X6_kicksUntilFree rfl rfl rfl hdX6_kicksUntilFree ⟨Nat.le_of_ble_eq_true rfl, Nat.le_of_ble_eq_true rfl⟩) hK hN hX hP (dF hD rfl) hS hA [0, 2, 3] (mcC rfl (mcC rfl (mcC rfl mcN))) (by decide +kernel) [(qt, .inr (6, [.ref qt_row, .ref qt_length, .ref qt_free, .int it_count])), (qt_free, .inl (cZ, 10, .inl ft_free)), (qt_length, .inl (cI, 10, .inl ft_length)), (qt_row, .inl (cI, 10, .inl ft_row))] [1] (mcC rfl (mcC rfl (mcC rfl mcN))) ((mcC rfl mcN).trans (mcC rfl mcN).symm) 4 rfl (by decide +kernel) (va_recv hK hP (ci := 6) (q0 := 0) rfl rfl) rfl hl.1 rfl (Nat.le_of_ble_eq_true rfl) ⟨Nat.zero_le _, Nat.zero_le _⟩ dX6_allow_35 (fun H locs hP hS => ?_)
          refine lv_iload hx hb dX6_allow_38 (lv_at hl 0 rfl) ?_
          refine lv_icmp_eq (tgt := 45) hx hb dX6_allow_40 (by decide) (fun c11 => ?_) (fun c11 => ?_)
          · replace h := if_t c11 h
            obtain ⟨n12, en12⟩ : ∃ z : Int32, z = x3 + 1 := ⟨_, rfl⟩
            replace h := lt_at en12 h
            refine lv_iinc (v := n12) (lv' := [(3, .int n12), (4, .int n8), (0, .ref qt), (1, .int x1), (2, .int x2)]) hx hb dX6_allow_45 hl (k := 4) rfl (by rw [en12]; rfl) (by decide) rfl (fun ls hl => ?_)
            refine lv_goto (tgt := 2) hx hb dX6_allow_48 (by decide) ?_
            exact ih x1 x2 n12 _ _ _ o h hP hS (lv_sub hl [2, 3, 4, 0] rfl) KR K
          · replace h := if_f c11 h
            refine lv_iconst (v := 0) hx hb dX6_allow_43 (by decide) ?_
            have hz9 := KR _ (Option.some.inj h)
            subst hz9
            exact hret _ _ _ _ hP hS rfl dX6_allow_44
  unfold fX6_allow at h
  refine lv_iconst (v := 0) hx hb dX6_allow_0 (by decide) ?_
  refine lv_istore_n (lv' := [(3, .int 0), (0, .ref qt), (1, .int x1), (2, .int x2)]) hx hb dX6_allow_1 rfl hl (by decide) rfl (fun ls hl => ?_)
  replace h := bd_el h
  obtain ⟨o13, ho13, h⟩ := h
  refine lp2 N x1 x2 0 _ _ _ o13 ho13 hP hS (lv_sub hl [1, 2, 3, 0] rfl) (fun rr er => by subst er; exact Option.some.inj h) (fun  eo H locs ls hP hS hl => ?_)
  subst eo
  dsimp only at h
  refine lv_iconst (v := 1) hx hb dX6_allow_51 (by decide) ?_
  simp only [Option.some.injEq] at h
  subst h
  exact hret _ _ _ _ hP hS rfl dX6_allow_52
theorem hdX6_allow : yX6_allow.cls = RX6 ∧ yX6_allow.cls ≠ "java/lang/invoke/MethodHandle" ∧ yX6_allow.cls ≠ "java/lang/invoke/VarHandle" ∧ (parseMethodDescriptor yX6_allow.desc).map (fun d => d.parameters.length) = some 2 := by decide +kernel
