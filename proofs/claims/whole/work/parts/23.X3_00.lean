noncomputable def fX3_start_L16 (N : Nat) : Nat → Int32 → Int32 → (Nat → Int32) → Option (Nat → Int32)
  | 0, _, _, _ => none
  | k + 1, x2, x3, ft_coins => (if 5 ≤ x3 then some ft_coins else ck x3 5 (lt (x3 + 1) fun n3 => fX3_start_L16 N k x2 n3 (upd ft_coins (Int32.toNatClampNeg x3) 0)))
theorem fX3_start_L16_s (N : Nat) (k : Nat) (x2 : Int32) (x3 : Int32) (ft_coins : Nat → Int32) : fX3_start_L16 N (k + 1) x2 x3 ft_coins = ((if 5 ≤ x3 then some ft_coins else ck x3 5 (lt (x3 + 1) fun n3 => fX3_start_L16 N k x2 n3 (upd ft_coins (Int32.toNatClampNeg x3) 0)))) := rfl
noncomputable def fX3_start (N : Nat) (it_width : Int32) (it_total : Int32) (ft_coins : Nat → Int32) (x1 : Int32) (x2 : Int32) : Option (Int32 × Int32 × Int32 × (Nat → Int32)) := lt ((if 5 < x1 then 5 else x1)) fun n4 => bd (fX3_start_L16 N N x2 0 ft_coins) fun g6 => (if n4 ≤ 0 then (if 0 < n4 then some (1, n4, x2, g6) else (if x2 = 0 then some (1, n4, x2, g6) else some (0, n4, x2, g6))) else ck 0 5 ((if 0 < n4 then some (1, n4, x2, upd g6 (Int32.toNatClampNeg 0) x2) else (if x2 = 0 then some (1, n4, x2, upd g6 (Int32.toNatClampNeg 0) x2) else some (0, n4, x2, upd g6 (Int32.toNatClampNeg 0) x2)))))
set_option maxHeartbeats 4000000 in
set_option maxRecDepth 100000 in
theorem ctX3_start (l : Launch) (D : va_G) (cI cZ cB cS : ClassId) (kK kV : Nat → Nat) (sz : Nat) (qt qt_coins : Nat) (it_width : Int32) (it_total : Int32) (ft_coins : Nat → Int32) (x1 : Int32) (x2 : Int32) (N : Nat) (r0 : Int32) (w_it_width : Int32) (w_it_total : Int32) (w_ft_coins : Nat → Int32) (h : fX3_start N it_width it_total ft_coins x1 x2 = some (r0, w_it_width, w_it_total, w_ft_coins)) : CtI l yX3_start wsX3_start { frames := 1, cells := 0, slots := 0, locals := 21 } D (TY cI cZ cB cS) kK kV [.ref qt, .int x1, .int x2] [(qt, .inr (3, [.ref qt_coins, .int it_width, .int it_total])), (qt_coins, .inl (cI, 5, .inl ft_coins))] [(qt, .inr (3, [.ref qt_coins, .int w_it_width, .int w_it_total])), (qt_coins, .inl (cI, 5, .inl w_ft_coins))] sz r0 := by
  refine mkI (cc := cX3_start) (maxL := 4) (rt := .boolean) (own := RX3) (by decide) rfl rfl (Nat.le_of_ble_eq_true rfl) ?_
  intro p e s m args below meth c A Z ls hx hb hml hown hts hK hN hX hP hD hA hS hret hl
  have hl : lv_has ls 4 [(0, .ref qt), (1, .int x1), (2, .int x2)] := hl
  have fl9 : (Cond.fieldLink RX3 9 "SoupWall$Row" "coins" "[I").before args s = true := hts _ (List.mem_of_getElem? (l := wsX3_start) (i := 7) rfl)
  have hiX3 : ∀ w ∈ wsX30, w ∈ wsX3_start := fun w h => List.mem_cons_of_mem _ (List.mem_append_right _ h)
  have ml15 : (Cond.methodLink RX3 15 Lib.Math.min.name).before args s = true := hts _ (List.mem_of_getElem? (l := wsX3_start) (i := 1) rfl)
  have msmin : (Cond.static Lib.Math.min.name).before args s = true := hts _ (List.mem_of_getElem? (l := wsX3_start) (i := 2) rfl)
  have mi : (Cond.initialized "java/lang/Math").before args s = true := hts _ (List.mem_of_getElem? (l := wsX3_start) (i := 3) rfl)
  have mcmin : (Cond.code Lib.Math.min.name Lib.Math.min.code 2 (some .int)).before args s = true := hts _ (List.mem_of_getElem? (l := wsX3_start) (i := 4) rfl)
  have fl21 : (Cond.fieldLink RX3 21 "SoupWall$Row" "width" "I").before args s = true := hts _ (List.mem_of_getElem? (l := wsX3_start) (i := 5) rfl)
  have fl25 : (Cond.fieldLink RX3 25 "SoupWall$Row" "total" "I").before args s = true := hts _ (List.mem_of_getElem? (l := wsX3_start) (i := 6) rfl)
  have lp16 : ∀ (k : Nat) (x2 : Int32) (x3 : Int32) (it_width : Int32) (it_total : Int32) (ft_coins : Nat → Int32) (H : Heap) (locs : List Loc) (ls : Array Slot) (o : Nat → Int32), fX3_start_L16 N k x2 x3 ft_coins = some o → va_P D vwCl [(qt, .inr (3, [.ref qt_coins, .int it_width, .int it_total])), (qt_coins, .inl (cI, 5, .inl ft_coins))] H → va_S A s.heap H locs → lv_has ls 4 [(0, .ref qt), (2, .int x2), (3, .int x3)] → (∀ (e_ft_coins : Nat → Int32), e_ft_coins = o → ∀ (H : Heap) (locs : List Loc) (ls : Array Slot), va_P D vwCl [(qt, .inr (3, [.ref qt_coins, .int it_width, .int it_total])), (qt_coins, .inl (cI, 5, .inl e_ft_coins))] H → va_S A s.heap H locs → lv_has ls 4 [(0, .ref qt), (2, .int x2)] → W p l e ({ frames := 1, cells := 0, slots := 0, locals := 21 } : Room) s m args below meth c H locs 0 0 Z (F0 m 34 ls [])) → W p l e ({ frames := 1, cells := 0, slots := 0, locals := 21 } : Room) s m args below meth c H locs 0 0 Z (F0 m 16 ls []) := by
    intro k
    induction k with
    | zero =>
      intro x2 x3 it_width it_total ft_coins H locs ls o h
      exact nomatch (show (none : Option (Nat → Int32)) = some o from h)
    | succ k ih =>
      intro x2 x3 it_width it_total ft_coins H locs ls o h hP hS hl K
      rw [fX3_start_L16_s] at h
      refine lv_iload_n hx hb dX3_start_16 rfl (lv_at hl 2 rfl) ?_
      refine lv_iconst (v := 5) hx hb dX3_start_17 (by decide) ?_
      refine lv_icmp_ge (tgt := 34) hx hb dX3_start_18 (by decide) (fun c1 => ?_) (fun c1 => ?_)
      · replace h := if_t c1 h
        exact K ft_coins (Option.some.inj h) _ _ _ hP hS (lv_sub hl [0, 1] rfl)
      · replace h := if_f c1 h
        refine lv_aload_n hx hb dX3_start_21 rfl (lv_at hl 0 rfl) ?_
        refine va_get (ci := 3) (v := .ref qt_coins) (C := RX3) (T := TX3) (N := 3) hx hb hts hiX3 hown hK hP 0 rfl rfl 0 (by decide) fl9 (fun _ h9 => h9) rfl dX3_start_22 ?_
        refine lv_iload_n hx hb dX3_start_25 rfl (lv_at hl 2 rfl) ?_
        refine lv_iconst (v := 0) hx hb dX3_start_26 (by decide) ?_
        replace h := ck_el h
        obtain ⟨hi2, h⟩ := h
        refine va_iast hx hb hK hP (dF hD rfl) hS 1 0 rfl rfl hi2 dX3_start_27 (fun H locs hP _ hS => ?_)
        replace hP : va_P D vwCl [(qt, .inr (3, [.ref qt_coins, .int it_width, .int it_total])), (qt_coins, .inl (cI, 5, .inl (upd ft_coins (Int32.toNatClampNeg x3) 0)))] H := hP
        obtain ⟨n3, en3⟩ : ∃ z : Int32, z = x3 + 1 := ⟨_, rfl⟩
        replace h := lt_at en3 h
        refine lv_iinc (v := n3) (lv' := [(3, .int n3), (0, .ref qt), (2, .int x2)]) hx hb dX3_start_28 hl (k := 2) rfl (by rw [en3]; rfl) (by decide) rfl (fun ls hl => ?_)
        refine lv_goto (tgt := 16) hx hb dX3_start_31 (by decide) ?_
        exact ih x2 n3 it_width it_total (upd ft_coins (Int32.toNatClampNeg x3) 0) _ _ _ o h hP hS (lv_sub hl [1, 2, 0] rfl) K
  unfold fX3_start at h
  refine lv_aload_n hx hb dX3_start_0 rfl (lv_at hl 0 rfl) ?_
  refine lv_iload_n hx hb dX3_start_1 rfl (lv_at hl 1 rfl) ?_
  refine lv_iconst (v := 5) hx hb dX3_start_2 (by decide) ?_
  refine va_mmin hx hb (hml.trans hl.1.symm) hown ml15 msmin mi mcmin (Nat.le_of_ble_eq_true rfl) (Nat.le_of_ble_eq_true rfl) (Nat.zero_le _) (Nat.zero_le _) dX3_start_3 ?_
  refine lv_topi (fun n4 en4 => ?_)
  replace h := lt_at en4 h
  refine va_put (ci := 3) (v := .int n4) (ty := .int) (C := RX3) (T := TX3) (N := 3) hx hb hts hiX3 tyX3 tyX3_ok nmX3 hown hK hP (dF hD rfl) hS 0 rfl rfl 1 (by decide) fl21 (fun _ h9 => h9) rfl (by decide +kernel) rfl rfl (Nat.le_of_ble_eq_true rfl) dX3_start_6 (fun H locs hP _ hS => ?_)
  replace hP : va_P D vwCl [(qt, .inr (3, [.ref qt_coins, .int n4, .int it_total])), (qt_coins, .inl (cI, 5, .inl ft_coins))] H := hP
  refine lv_aload_n hx hb dX3_start_9 rfl (lv_at hl 0 rfl) ?_
  refine lv_iload_n hx hb dX3_start_10 rfl (lv_at hl 2 rfl) ?_
  refine va_put (ci := 3) (v := .int x2) (ty := .int) (C := RX3) (T := TX3) (N := 3) hx hb hts hiX3 tyX3 tyX3_ok nmX3 hown hK hP (dF hD rfl) hS 0 rfl rfl 2 (by decide) fl25 (fun _ h9 => h9) rfl (by decide +kernel) rfl rfl (Nat.le_of_ble_eq_true rfl) dX3_start_11 (fun H locs hP _ hS => ?_)
  replace hP : va_P D vwCl [(qt, .inr (3, [.ref qt_coins, .int n4, .int x2])), (qt_coins, .inl (cI, 5, .inl ft_coins))] H := hP
  refine lv_iconst (v := 0) hx hb dX3_start_14 (by decide) ?_
  refine lv_istore_n (lv' := [(3, .int 0), (0, .ref qt), (1, .int x1), (2, .int x2)]) hx hb dX3_start_15 rfl hl (by decide) rfl (fun ls hl => ?_)
  replace h := bd_el h
  obtain ⟨o5, ho5, h⟩ := h
  refine lp16 N x2 0 n4 x2 ft_coins _ _ _ o5 ho5 hP hS (lv_sub hl [1, 3, 0] rfl) (fun g6 eo H locs ls hP hS hl => ?_)
  subst eo
  refine lv_aload_n hx hb dX3_start_34 rfl (lv_at hl 0 rfl) ?_
  refine va_get (ci := 3) (v := .int n4) (C := RX3) (T := TX3) (N := 3) hx hb hts hiX3 hown hK hP 0 rfl rfl 1 (by decide) fl21 (fun _ h9 => h9) rfl dX3_start_35 ?_
  refine lv_if_le (tgt := 48) hx hb dX3_start_38 (by decide) (fun c7 => ?_) (fun c7 => ?_)
  · replace h := if_t c7 h
    refine lv_aload_n hx hb dX3_start_48 rfl (lv_at hl 0 rfl) ?_
    refine va_get (ci := 3) (v := .int n4) (C := RX3) (T := TX3) (N := 3) hx hb hts hiX3 hown hK hP 0 rfl rfl 1 (by decide) fl21 (fun _ h9 => h9) rfl dX3_start_49 ?_
    refine lv_if_gt (tgt := 59) hx hb dX3_start_52 (by decide) (fun c8 => ?_) (fun c8 => ?_)
    · replace h := if_t c8 h
      refine lv_iconst (v := 1) hx hb dX3_start_59 (by decide) ?_
      refine lv_goto (tgt := 64) hx hb dX3_start_60 (by decide) ?_
      simp only [Option.some.injEq, Prod.mk.injEq] at h
      obtain ⟨rfl, rfl, rfl, rfl⟩ := h
      exact hret _ _ _ _ hP hS rfl dX3_start_64
    · replace h := if_f c8 h
      refine lv_iload_n hx hb dX3_start_55 rfl (lv_at hl 1 rfl) ?_
      refine lv_if_ne (tgt := 63) hx hb dX3_start_56 (by decide) (fun c9 => ?_) (fun c9 => ?_)
      · replace h := if_f c9 h
        refine lv_iconst (v := 0) hx hb dX3_start_63 (by decide) ?_
        simp only [Option.some.injEq, Prod.mk.injEq] at h
        obtain ⟨rfl, rfl, rfl, rfl⟩ := h
        exact hret _ _ _ _ hP hS rfl dX3_start_64
      · replace h := if_t c9 h
        refine lv_iconst (v := 1) hx hb dX3_start_59 (by decide) ?_
        refine lv_goto (tgt := 64) hx hb dX3_start_60 (by decide) ?_
        simp only [Option.some.injEq, Prod.mk.injEq] at h
        obtain ⟨rfl, rfl, rfl, rfl⟩ := h
        exact hret _ _ _ _ hP hS rfl dX3_start_64
  · replace h := if_f c7 h
    refine lv_aload_n hx hb dX3_start_41 rfl (lv_at hl 0 rfl) ?_
    refine va_get (ci := 3) (v := .ref qt_coins) (C := RX3) (T := TX3) (N := 3) hx hb hts hiX3 hown hK hP 0 rfl rfl 0 (by decide) fl9 (fun _ h9 => h9) rfl dX3_start_42 ?_
    refine lv_iconst (v := 0) hx hb dX3_start_45 (by decide) ?_
    refine lv_iload_n hx hb dX3_start_46 rfl (lv_at hl 1 rfl) ?_
    replace h := ck_el h
    obtain ⟨hi10, h⟩ := h
    refine va_iast hx hb hK hP (dF hD rfl) hS 1 0 rfl rfl hi10 dX3_start_47 (fun H locs hP _ hS => ?_)
    replace hP : va_P D vwCl [(qt, .inr (3, [.ref qt_coins, .int n4, .int x2])), (qt_coins, .inl (cI, 5, .inl (upd g6 (Int32.toNatClampNeg 0) x2)))] H := hP
    refine lv_aload_n hx hb dX3_start_48 rfl (lv_at hl 0 rfl) ?_
    refine va_get (ci := 3) (v := .int n4) (C := RX3) (T := TX3) (N := 3) hx hb hts hiX3 hown hK hP 0 rfl rfl 1 (by decide) fl21 (fun _ h9 => h9) rfl dX3_start_49 ?_
    refine lv_if_gt (tgt := 59) hx hb dX3_start_52 (by decide) (fun c11 => ?_) (fun c11 => ?_)
    · replace h := if_t c11 h
      refine lv_iconst (v := 1) hx hb dX3_start_59 (by decide) ?_
      refine lv_goto (tgt := 64) hx hb dX3_start_60 (by decide) ?_
      simp only [Option.some.injEq, Prod.mk.injEq] at h
      obtain ⟨rfl, rfl, rfl, rfl⟩ := h
      exact hret _ _ _ _ hP hS rfl dX3_start_64
    · replace h := if_f c11 h
      refine lv_iload_n hx hb dX3_start_55 rfl (lv_at hl 1 rfl) ?_
      refine lv_if_ne (tgt := 63) hx hb dX3_start_56 (by decide) (fun c12 => ?_) (fun c12 => ?_)
      · replace h := if_f c12 h
        refine lv_iconst (v := 0) hx hb dX3_start_63 (by decide) ?_
        simp only [Option.some.injEq, Prod.mk.injEq] at h
        obtain ⟨rfl, rfl, rfl, rfl⟩ := h
        exact hret _ _ _ _ hP hS rfl dX3_start_64
      · replace h := if_t c12 h
        refine lv_iconst (v := 1) hx hb dX3_start_59 (by decide) ?_
        refine lv_goto (tgt := 64) hx hb dX3_start_60 (by decide) ?_
        simp only [Option.some.injEq, Prod.mk.injEq] at h
        obtain ⟨rfl, rfl, rfl, rfl⟩ := h
        exact hret _ _ _ _ hP hS rfl dX3_start_64
theorem hdX3_start : yX3_start.cls = RX3 ∧ yX3_start.cls ≠ "java/lang/invoke/MethodHandle" ∧ yX3_start.cls ≠ "java/lang/invoke/VarHandle" ∧ (parseMethodDescriptor yX3_start.desc).map (fun d => d.parameters.length) = some 2 := by decide +kernel

noncomputable def fX3_next_L41 (N : Nat) : Nat → Int32 → Int32 → (Nat → Int32) → Option ((Unit) ⊕ (Int32 × (Nat → Int32)))
  | 0, _, _, _ => none
  | k + 1, x1, x2, ft_coins => (if x2 < 0 then some (.inl ()) else ck x2 5 ((if (ft_coins (Int32.toNatClampNeg x2)) ≤ 0 then lt (x2 + (-1)) fun n4 => fX3_next_L41 N k x1 n4 ft_coins else lt ((ft_coins (Int32.toNatClampNeg x2)) - 1) fun n5 => lt (x1 + 1) fun n6 => ck (x2 + 1) 5 (some (.inr (1, upd (upd ft_coins (Int32.toNatClampNeg x2) n5) (Int32.toNatClampNeg (x2 + 1)) n6))))))
theorem fX3_next_L41_s (N : Nat) (k : Nat) (x1 : Int32) (x2 : Int32) (ft_coins : Nat → Int32) : fX3_next_L41 N (k + 1) x1 x2 ft_coins = ((if x2 < 0 then some (.inl ()) else ck x2 5 ((if (ft_coins (Int32.toNatClampNeg x2)) ≤ 0 then lt (x2 + (-1)) fun n4 => fX3_next_L41 N k x1 n4 ft_coins else lt ((ft_coins (Int32.toNatClampNeg x2)) - 1) fun n5 => lt (x1 + 1) fun n6 => ck (x2 + 1) 5 (some (.inr (1, upd (upd ft_coins (Int32.toNatClampNeg x2) n5) (Int32.toNatClampNeg (x2 + 1)) n6))))))) := rfl
noncomputable def fX3_next (N : Nat) (it_width : Int32) (ft_coins : Nat → Int32) : Option (Int32 × (Nat → Int32)) := (if 2 ≤ it_width then ck (it_width - 1) 5 (lt (ft_coins (Int32.toNatClampNeg (it_width - 1))) fun n10 => lt (it_width - 2) fun n11 => bd (fX3_next_L41 N N n10 n11 (upd ft_coins (Int32.toNatClampNeg (it_width - 1)) 0)) fun o => match o with | .inr rr => some rr | .inl _ => some (0, upd ft_coins (Int32.toNatClampNeg (it_width - 1)) 0)) else some (0, ft_coins))
set_option maxHeartbeats 4000000 in
set_option maxRecDepth 100000 in
theorem ctX3_next (l : Launch) (D : va_G) (cI cZ cB cS : ClassId) (kK kV : Nat → Nat) (sz : Nat) (qt qt_coins : Nat) (it_width : Int32) (it_total : Int32) (ft_coins : Nat → Int32)  (N : Nat) (r0 : Int32) (w_ft_coins : Nat → Int32) (h : fX3_next N it_width ft_coins = some (r0, w_ft_coins)) : CtI l yX3_next wsX3_next { frames := 0, cells := 0, slots := 0, locals := 0 } D (TY cI cZ cB cS) kK kV [.ref qt] [(qt, .inr (3, [.ref qt_coins, .int it_width, .int it_total])), (qt_coins, .inl (cI, 5, .inl ft_coins))] [(qt, .inr (3, [.ref qt_coins, .int it_width, .int it_total])), (qt_coins, .inl (cI, 5, .inl w_ft_coins))] sz r0 := by
  refine mkI (cc := cX3_next) (maxL := 3) (rt := .boolean) (own := RX3) (by decide) rfl rfl (Nat.le_of_ble_eq_true rfl) ?_
  intro p e s m args below meth c A Z ls hx hb hml hown hts hK hN hX hP hD hA hS hret hl
  have hl : lv_has ls 3 [(0, .ref qt)] := hl
  have fl9 : (Cond.fieldLink RX3 9 "SoupWall$Row" "coins" "[I").before args s = true := hts _ (List.mem_of_getElem? (l := wsX3_next) (i := 2) rfl)
  have hiX3 : ∀ w ∈ wsX30, w ∈ wsX3_next := fun w h => List.mem_cons_of_mem _ (List.mem_append_right _ h)
  have fl21 : (Cond.fieldLink RX3 21 "SoupWall$Row" "width" "I").before args s = true := hts _ (List.mem_of_getElem? (l := wsX3_next) (i := 1) rfl)
  have lp41 : ∀ (k : Nat) (x1 : Int32) (x2 : Int32) (ft_coins : Nat → Int32) (H : Heap) (locs : List Loc) (ls : Array Slot) (o : (Unit) ⊕ (Int32 × (Nat → Int32))), fX3_next_L41 N k x1 x2 ft_coins = some o → va_P D vwCl [(qt, .inr (3, [.ref qt_coins, .int it_width, .int it_total])), (qt_coins, .inl (cI, 5, .inl ft_coins))] H → va_S A s.heap H locs → lv_has ls 3 [(0, .ref qt), (1, .int x1), (2, .int x2)] → (∀ rr, .inr rr = o → rr = (r0, w_ft_coins)) → (.inl () = o → ∀ (H : Heap) (locs : List Loc) (ls : Array Slot), va_P D vwCl [(qt, .inr (3, [.ref qt_coins, .int it_width, .int it_total])), (qt_coins, .inl (cI, 5, .inl ft_coins))] H → va_S A s.heap H locs → lv_has ls 3 [] → W p l e ({ frames := 0, cells := 0, slots := 0, locals := 0 } : Room) s m args below meth c H locs 0 0 Z (F0 m 83 ls [])) → W p l e ({ frames := 0, cells := 0, slots := 0, locals := 0 } : Room) s m args below meth c H locs 0 0 Z (F0 m 41 ls []) := by
    intro k
    induction k with
    | zero =>
      intro x1 x2 ft_coins H locs ls o h
      exact nomatch (show (none : Option ((Unit) ⊕ (Int32 × (Nat → Int32)))) = some o from h)
    | succ k ih =>
      intro x1 x2 ft_coins H locs ls o h hP hS hl KR K
      rw [fX3_next_L41_s] at h
      refine lv_iload_n hx hb dX3_next_41 rfl (lv_at hl 2 rfl) ?_
      refine lv_if_lt (tgt := 83) hx hb dX3_next_42 (by decide) (fun c1 => ?_) (fun c1 => ?_)
      · replace h := if_t c1 h
        exact K  (Option.some.inj h) _ _ _ hP hS (lv_sub hl [] rfl)
      · replace h := if_f c1 h
        refine lv_aload_n hx hb dX3_next_45 rfl (lv_at hl 0 rfl) ?_
        refine va_get (ci := 3) (v := .ref qt_coins) (C := RX3) (T := TX3) (N := 3) hx hb hts hiX3 hown hK hP 0 rfl rfl 0 (by decide) fl9 (fun _ h9 => h9) rfl dX3_next_46 ?_
        refine lv_iload_n hx hb dX3_next_49 rfl (lv_at hl 2 rfl) ?_
        replace h := ck_el h
        obtain ⟨hi2, h⟩ := h
        refine va_iald hx hb hK hP 1 0 rfl rfl hi2 dX3_next_50 ?_
        refine lv_if_le (tgt := 77) hx hb dX3_next_51 (by decide) (fun c3 => ?_) (fun c3 => ?_)
        · replace h := if_t c3 h
          obtain ⟨n4, en4⟩ : ∃ z : Int32, z = x2 + (-1) := ⟨_, rfl⟩
          replace h := lt_at en4 h
          refine lv_iinc (v := n4) (lv' := [(2, .int n4), (0, .ref qt), (1, .int x1)]) hx hb dX3_next_77 hl (k := 2) rfl (by rw [en4]; rfl) (by decide) rfl (fun ls hl => ?_)
          refine lv_goto (tgt := 41) hx hb dX3_next_80 (by decide) ?_
          exact ih x1 n4 ft_coins _ _ _ o h hP hS (lv_sub hl [1, 2, 0] rfl) KR K
        · replace h := if_f c3 h
          refine lv_aload_n hx hb dX3_next_54 rfl (lv_at hl 0 rfl) ?_
          refine va_get (ci := 3) (v := .ref qt_coins) (C := RX3) (T := TX3) (N := 3) hx hb hts hiX3 hown hK hP 0 rfl rfl 0 (by decide) fl9 (fun _ h9 => h9) rfl dX3_next_55 ?_
          refine lv_iload_n hx hb dX3_next_58 rfl (lv_at hl 2 rfl) ?_
          refine lv_dup2_11 hx hb dX3_next_59 rfl rfl ?_
          refine va_iald hx hb hK hP 1 0 rfl rfl hi2 dX3_next_60 ?_
          refine lv_iconst (v := 1) hx hb dX3_next_61 (by decide) ?_
          refine lv_isub hx hb dX3_next_62 ?_
          refine lv_topi (fun n5 en5 => ?_)
          replace h := lt_at en5 h
          refine va_iast hx hb hK hP (dF hD rfl) hS 1 0 rfl rfl hi2 dX3_next_63 (fun H locs hP _ hS => ?_)
          replace hP : va_P D vwCl [(qt, .inr (3, [.ref qt_coins, .int it_width, .int it_total])), (qt_coins, .inl (cI, 5, .inl (upd ft_coins (Int32.toNatClampNeg x2) n5)))] H := hP
          refine lv_aload_n hx hb dX3_next_64 rfl (lv_at hl 0 rfl) ?_
          refine va_get (ci := 3) (v := .ref qt_coins) (C := RX3) (T := TX3) (N := 3) hx hb hts hiX3 hown hK hP 0 rfl rfl 0 (by decide) fl9 (fun _ h9 => h9) rfl dX3_next_65 ?_
          refine lv_iload_n hx hb dX3_next_68 rfl (lv_at hl 2 rfl) ?_
          refine lv_iconst (v := 1) hx hb dX3_next_69 (by decide) ?_
          refine lv_iadd hx hb dX3_next_70 ?_
          refine lv_iload_n hx hb dX3_next_71 rfl (lv_at hl 1 rfl) ?_
          refine lv_iconst (v := 1) hx hb dX3_next_72 (by decide) ?_
          refine lv_iadd hx hb dX3_next_73 ?_
          refine lv_topi (fun n6 en6 => ?_)
          replace h := lt_at en6 h
          replace h := ck_el h
          obtain ⟨hi7, h⟩ := h
          refine va_iast hx hb hK hP (dF hD rfl) hS 1 0 rfl rfl hi7 dX3_next_74 (fun H locs hP _ hS => ?_)
          replace hP : va_P D vwCl [(qt, .inr (3, [.ref qt_coins, .int it_width, .int it_total])), (qt_coins, .inl (cI, 5, .inl (upd (upd ft_coins (Int32.toNatClampNeg x2) n5) (Int32.toNatClampNeg (x2 + 1)) n6)))] H := hP
          refine lv_iconst (v := 1) hx hb dX3_next_75 (by decide) ?_
          have hz9 := KR _ (Option.some.inj h)
          simp only [Prod.mk.injEq] at hz9
          obtain ⟨rfl, rfl⟩ := hz9
          exact hret _ _ _ _ hP hS rfl dX3_next_76
  unfold fX3_next at h
  refine lv_aload_n hx hb dX3_next_0 rfl (lv_at hl 0 rfl) ?_
  refine va_get (ci := 3) (v := .int it_width) (C := RX3) (T := TX3) (N := 3) hx hb hts hiX3 hown hK hP 0 rfl rfl 1 (by decide) fl21 (fun _ h9 => h9) rfl dX3_next_1 ?_
  refine lv_iconst (v := 2) hx hb dX3_next_4 (by decide) ?_
  refine lv_icmp_ge (tgt := 10) hx hb dX3_next_5 (by decide) (fun c8 => ?_) (fun c8 => ?_)
  · replace h := if_t c8 h
    refine lv_aload_n hx hb dX3_next_10 rfl (lv_at hl 0 rfl) ?_
    refine va_get (ci := 3) (v := .ref qt_coins) (C := RX3) (T := TX3) (N := 3) hx hb hts hiX3 hown hK hP 0 rfl rfl 0 (by decide) fl9 (fun _ h9 => h9) rfl dX3_next_11 ?_
    refine lv_aload_n hx hb dX3_next_14 rfl (lv_at hl 0 rfl) ?_
    refine va_get (ci := 3) (v := .int it_width) (C := RX3) (T := TX3) (N := 3) hx hb hts hiX3 hown hK hP 0 rfl rfl 1 (by decide) fl21 (fun _ h9 => h9) rfl dX3_next_15 ?_
    refine lv_iconst (v := 1) hx hb dX3_next_18 (by decide) ?_
    refine lv_isub hx hb dX3_next_19 ?_
    replace h := ck_el h
    obtain ⟨hi9, h⟩ := h
    refine va_iald hx hb hK hP 1 0 rfl rfl hi9 dX3_next_20 ?_
    refine lv_topi (fun n10 en10 => ?_)
    replace h := lt_at en10 h
    refine lv_istore_n (lv' := [(1, .int n10), (0, .ref qt)]) hx hb dX3_next_21 rfl hl (by decide) rfl (fun ls hl => ?_)
    refine lv_aload_n hx hb dX3_next_22 rfl (lv_at hl 1 rfl) ?_
    refine va_get (ci := 3) (v := .ref qt_coins) (C := RX3) (T := TX3) (N := 3) hx hb hts hiX3 hown hK hP 0 rfl rfl 0 (by decide) fl9 (fun _ h9 => h9) rfl dX3_next_23 ?_
    refine lv_aload_n hx hb dX3_next_26 rfl (lv_at hl 1 rfl) ?_
    refine va_get (ci := 3) (v := .int it_width) (C := RX3) (T := TX3) (N := 3) hx hb hts hiX3 hown hK hP 0 rfl rfl 1 (by decide) fl21 (fun _ h9 => h9) rfl dX3_next_27 ?_
    refine lv_iconst (v := 1) hx hb dX3_next_30 (by decide) ?_
    refine lv_isub hx hb dX3_next_31 ?_
    refine lv_iconst (v := 0) hx hb dX3_next_32 (by decide) ?_
    refine va_iast hx hb hK hP (dF hD rfl) hS 1 0 rfl rfl hi9 dX3_next_33 (fun H locs hP _ hS => ?_)
    replace hP : va_P D vwCl [(qt, .inr (3, [.ref qt_coins, .int it_width, .int it_total])), (qt_coins, .inl (cI, 5, .inl (upd ft_coins (Int32.toNatClampNeg (it_width - 1)) 0)))] H := hP
    refine lv_aload_n hx hb dX3_next_34 rfl (lv_at hl 1 rfl) ?_
    refine va_get (ci := 3) (v := .int it_width) (C := RX3) (T := TX3) (N := 3) hx hb hts hiX3 hown hK hP 0 rfl rfl 1 (by decide) fl21 (fun _ h9 => h9) rfl dX3_next_35 ?_
    refine lv_iconst (v := 2) hx hb dX3_next_38 (by decide) ?_
    refine lv_isub hx hb dX3_next_39 ?_
    refine lv_topi (fun n11 en11 => ?_)
    replace h := lt_at en11 h
    refine lv_istore_n (lv' := [(2, .int n11), (1, .int n10), (0, .ref qt)]) hx hb dX3_next_40 rfl hl (by decide) rfl (fun ls hl => ?_)
    replace h := bd_el h
    obtain ⟨o12, ho12, h⟩ := h
    refine lp41 N n10 n11 (upd ft_coins (Int32.toNatClampNeg (it_width - 1)) 0) _ _ _ o12 ho12 hP hS (lv_sub hl [2, 1, 0] rfl) (fun rr er => by subst er; exact Option.some.inj h) (fun  eo H locs ls hP hS hl => ?_)
    subst eo
    dsimp only at h
    refine lv_iconst (v := 0) hx hb dX3_next_83 (by decide) ?_
    simp only [Option.some.injEq, Prod.mk.injEq] at h
    obtain ⟨rfl, rfl⟩ := h
    exact hret _ _ _ _ hP hS rfl dX3_next_84
  · replace h := if_f c8 h
    refine lv_iconst (v := 0) hx hb dX3_next_8 (by decide) ?_
    simp only [Option.some.injEq, Prod.mk.injEq] at h
    obtain ⟨rfl, rfl⟩ := h
    exact hret _ _ _ _ hP hS rfl dX3_next_9
theorem hdX3_next : yX3_next.cls = RX3 ∧ yX3_next.cls ≠ "java/lang/invoke/MethodHandle" ∧ yX3_next.cls ≠ "java/lang/invoke/VarHandle" ∧ (parseMethodDescriptor yX3_next.desc).map (fun d => d.parameters.length) = some 0 := by decide +kernel

noncomputable def fX3_coinsOf (N : Nat) (ft_coins : Nat → Int32) (x1 : Int32) : Option (Int32) := (if x1 < 0 then some 0 else (if x1 < 5 then ck x1 5 (lt (ft_coins (Int32.toNatClampNeg x1)) fun n4 => some n4) else some 0))
set_option maxHeartbeats 4000000 in
set_option maxRecDepth 100000 in
theorem ctX3_coinsOf (l : Launch) (D : va_G) (cI cZ cB cS : ClassId) (kK kV : Nat → Nat) (sz : Nat) (qt qt_coins : Nat) (it_width : Int32) (it_total : Int32) (ft_coins : Nat → Int32) (x1 : Int32) (N : Nat) (r0 : Int32)  (h : fX3_coinsOf N ft_coins x1 = some r0) : CtI l yX3_coinsOf wsX3_coinsOf { frames := 0, cells := 0, slots := 0, locals := 0 } D (TY cI cZ cB cS) kK kV [.ref qt, .int x1] [(qt, .inr (3, [.ref qt_coins, .int it_width, .int it_total])), (qt_coins, .inl (cI, 5, .inl ft_coins))] [(qt, .inr (3, [.ref qt_coins, .int it_width, .int it_total])), (qt_coins, .inl (cI, 5, .inl ft_coins))] sz r0 := by
  refine mkI (cc := cX3_coinsOf) (maxL := 2) (rt := .int) (own := RX3) (by decide) rfl rfl (Nat.le_of_ble_eq_true rfl) ?_
  intro p e s m args below meth c A Z ls hx hb hml hown hts hK hN hX hP hD hA hS hret hl
  have hl : lv_has ls 2 [(0, .ref qt), (1, .int x1)] := hl
  have fl9 : (Cond.fieldLink RX3 9 "SoupWall$Row" "coins" "[I").before args s = true := hts _ (List.mem_of_getElem? (l := wsX3_coinsOf) (i := 1) rfl)
  have hiX3 : ∀ w ∈ wsX30, w ∈ wsX3_coinsOf := fun w h => List.mem_cons_of_mem _ (List.mem_append_right _ h)
  unfold fX3_coinsOf at h
  refine lv_iload_n hx hb dX3_coinsOf_0 rfl (lv_at hl 1 rfl) ?_
  refine lv_if_lt (tgt := 9) hx hb dX3_coinsOf_1 (by decide) (fun c1 => ?_) (fun c1 => ?_)
  · replace h := if_t c1 h
    refine lv_iconst (v := 0) hx hb dX3_coinsOf_9 (by decide) ?_
    refine lv_goto (tgt := 19) hx hb dX3_coinsOf_10 (by decide) ?_
    simp only [Option.some.injEq] at h
    subst h
    exact hret _ _ _ _ hP hS rfl dX3_coinsOf_19
  · replace h := if_f c1 h
    refine lv_iload_n hx hb dX3_coinsOf_4 rfl (lv_at hl 1 rfl) ?_
    refine lv_iconst (v := 5) hx hb dX3_coinsOf_5 (by decide) ?_
    refine lv_icmp_lt (tgt := 13) hx hb dX3_coinsOf_6 (by decide) (fun c2 => ?_) (fun c2 => ?_)
    · replace h := if_t c2 h
      refine lv_aload_n hx hb dX3_coinsOf_13 rfl (lv_at hl 0 rfl) ?_
      refine va_get (ci := 3) (v := .ref qt_coins) (C := RX3) (T := TX3) (N := 3) hx hb hts hiX3 hown hK hP 0 rfl rfl 0 (by decide) fl9 (fun _ h9 => h9) rfl dX3_coinsOf_14 ?_
      refine lv_iload_n hx hb dX3_coinsOf_17 rfl (lv_at hl 1 rfl) ?_
      replace h := ck_el h
      obtain ⟨hi3, h⟩ := h
      refine va_iald hx hb hK hP 1 0 rfl rfl hi3 dX3_coinsOf_18 ?_
      refine lv_topi (fun n4 en4 => ?_)
      replace h := lt_at en4 h
      simp only [Option.some.injEq] at h
      subst h
      exact hret _ _ _ _ hP hS rfl dX3_coinsOf_19
    · replace h := if_f c2 h
      refine lv_iconst (v := 0) hx hb dX3_coinsOf_9 (by decide) ?_
      refine lv_goto (tgt := 19) hx hb dX3_coinsOf_10 (by decide) ?_
      simp only [Option.some.injEq] at h
      subst h
      exact hret _ _ _ _ hP hS rfl dX3_coinsOf_19
theorem hdX3_coinsOf : yX3_coinsOf.cls = RX3 ∧ yX3_coinsOf.cls ≠ "java/lang/invoke/MethodHandle" ∧ yX3_coinsOf.cls ≠ "java/lang/invoke/VarHandle" ∧ (parseMethodDescriptor yX3_coinsOf.desc).map (fun d => d.parameters.length) = some 1 := by decide +kernel
